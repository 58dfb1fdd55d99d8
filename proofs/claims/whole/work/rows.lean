section
-- ===== PART A: goes FIRST, ahead of the names: the tables' words, and 'selects' of the private methods out of them =====
/-- a private method of a class that the tables say can be made, by its rows of tables_1 -/
def lw_okq (q : MethodName × Nat) : Prop := (q.1.cls ≠ "java/lang/invoke/MethodHandle" ∧ q.1.cls ≠ "java/lang/invoke/VarHandle") ∧ Cond.instantiable q.1.cls q.2 ∈ tables_1 ∧ Cond.privateMethod q.1 ∈ tables_1 ∧ Cond.instanceMethod q.1 ∈ tables_1
theorem lw_p0 : lw_okq (⟨"BlockLayer$Disk", "beginIfIdle", "()V"⟩, 11) := ⟨⟨by decide +kernel, by decide +kernel⟩, List.mem_of_getElem? (i := 68) (by decide +kernel), List.mem_of_getElem? (i := 173) (by decide +kernel), List.mem_of_getElem? (i := 174) (by decide +kernel)⟩
theorem lw_p1 : lw_okq (⟨"BlockLayer$Disk", "chosenPlace", "()I"⟩, 11) := ⟨⟨by decide +kernel, by decide +kernel⟩, List.mem_of_getElem? (i := 68) (by decide +kernel), List.mem_of_getElem? (i := 177) (by decide +kernel), List.mem_of_getElem? (i := 178) (by decide +kernel)⟩
theorem lw_p2 : lw_okq (⟨"BlockLayer$Disk", "isOldUnderPolicy", "(LBlockLayer$Request;)Z"⟩, 11) := ⟨⟨by decide +kernel, by decide +kernel⟩, List.mem_of_getElem? (i := 68) (by decide +kernel), List.mem_of_getElem? (i := 200) (by decide +kernel), List.mem_of_getElem? (i := 201) (by decide +kernel)⟩
theorem lw_p3 : lw_okq (⟨"BlockLayer$Disk", "sideOfPolicy", "()I"⟩, 11) := ⟨⟨by decide +kernel, by decide +kernel⟩, List.mem_of_getElem? (i := 68) (by decide +kernel), List.mem_of_getElem? (i := 204) (by decide +kernel), List.mem_of_getElem? (i := 205) (by decide +kernel)⟩
theorem lw_p4 : lw_okq (⟨"BlockLayer$Disk", "nearestPlace", "(I)I"⟩, 11) := ⟨⟨by decide +kernel, by decide +kernel⟩, List.mem_of_getElem? (i := 68) (by decide +kernel), List.mem_of_getElem? (i := 208) (by decide +kernel), List.mem_of_getElem? (i := 209) (by decide +kernel)⟩
theorem lw_p5 : lw_okq (⟨"BlockLayer$Disk", "tracksAway", "(II)I"⟩, 11) := ⟨⟨by decide +kernel, by decide +kernel⟩, List.mem_of_getElem? (i := 68) (by decide +kernel), List.mem_of_getElem? (i := 219) (by decide +kernel), List.mem_of_getElem? (i := 220) (by decide +kernel)⟩
theorem lw_p6 : lw_okq (⟨"java/util/ArrayList", "fastRemove", "([Ljava/lang/Object;I)V"⟩, 3) := ⟨⟨by decide +kernel, by decide +kernel⟩, List.mem_of_getElem? (i := 38) (by decide +kernel), List.mem_of_getElem? (i := 234) (by decide +kernel), List.mem_of_getElem? (i := 235) (by decide +kernel)⟩
theorem lw_p7 : lw_okq (⟨"BlockLayer$Disk", "passUntilEnd", "(I)I"⟩, 11) := ⟨⟨by decide +kernel, by decide +kernel⟩, List.mem_of_getElem? (i := 68) (by decide +kernel), List.mem_of_getElem? (i := 246) (by decide +kernel), List.mem_of_getElem? (i := 247) (by decide +kernel)⟩
theorem lw_p8 : lw_okq (⟨"BlockLayer$Disk", "end", "(LBlockLayer$Request;)V"⟩, 11) := ⟨⟨by decide +kernel, by decide +kernel⟩, List.mem_of_getElem? (i := 68) (by decide +kernel), List.mem_of_getElem? (i := 253) (by decide +kernel), List.mem_of_getElem? (i := 254) (by decide +kernel)⟩
theorem lw_p9 : lw_okq (⟨"BlockLayer$Disk", "valueInside", "(I)I"⟩, 11) := ⟨⟨by decide +kernel, by decide +kernel⟩, List.mem_of_getElem? (i := 68) (by decide +kernel), List.mem_of_getElem? (i := 257) (by decide +kernel), List.mem_of_getElem? (i := 258) (by decide +kernel)⟩
theorem lw_p10 : lw_okq (⟨"java/util/ArrayList", "add", "(Ljava/lang/Object;[Ljava/lang/Object;I)V"⟩, 3) := ⟨⟨by decide +kernel, by decide +kernel⟩, List.mem_of_getElem? (i := 38) (by decide +kernel), List.mem_of_getElem? (i := 298) (by decide +kernel), List.mem_of_getElem? (i := 299) (by decide +kernel)⟩
theorem lw_p11 : lw_okq (⟨"java/util/ArrayList", "grow", "()[Ljava/lang/Object;"⟩, 3) := ⟨⟨by decide +kernel, by decide +kernel⟩, List.mem_of_getElem? (i := 38) (by decide +kernel), List.mem_of_getElem? (i := 302) (by decide +kernel), List.mem_of_getElem? (i := 303) (by decide +kernel)⟩
theorem lw_p12 : lw_okq (⟨"java/util/ArrayList", "grow", "(I)[Ljava/lang/Object;"⟩, 3) := ⟨⟨by decide +kernel, by decide +kernel⟩, List.mem_of_getElem? (i := 38) (by decide +kernel), List.mem_of_getElem? (i := 306) (by decide +kernel), List.mem_of_getElem? (i := 307) (by decide +kernel)⟩
theorem lw_p13 : lw_okq (⟨"BlockLayer$Disk", "moveToMedia", "(I)V"⟩, 11) := ⟨⟨by decide +kernel, by decide +kernel⟩, List.mem_of_getElem? (i := 68) (by decide +kernel), List.mem_of_getElem? (i := 348) (by decide +kernel), List.mem_of_getElem? (i := 349) (by decide +kernel)⟩
theorem lw_p14 : lw_okq (⟨"BlockLayer", "newestOf", "(I)I"⟩, 7) := ⟨⟨by decide +kernel, by decide +kernel⟩, List.mem_of_getElem? (i := 24) (by decide +kernel), List.mem_of_getElem? (i := 364) (by decide +kernel), List.mem_of_getElem? (i := 365) (by decide +kernel)⟩
theorem lw_p15 : lw_okq (⟨"BlockLayer", "liveRequest", "(I)LBlockLayer$Request;"⟩, 7) := ⟨⟨by decide +kernel, by decide +kernel⟩, List.mem_of_getElem? (i := 24) (by decide +kernel), List.mem_of_getElem? (i := 416) (by decide +kernel), List.mem_of_getElem? (i := 417) (by decide +kernel)⟩
def lw_privs_1 : List (MethodName × Nat) := [(⟨"BlockLayer$Disk", "beginIfIdle", "()V"⟩, 11), (⟨"BlockLayer$Disk", "chosenPlace", "()I"⟩, 11), (⟨"BlockLayer$Disk", "isOldUnderPolicy", "(LBlockLayer$Request;)Z"⟩, 11), (⟨"BlockLayer$Disk", "sideOfPolicy", "()I"⟩, 11), (⟨"BlockLayer$Disk", "nearestPlace", "(I)I"⟩, 11), (⟨"BlockLayer$Disk", "tracksAway", "(II)I"⟩, 11), (⟨"java/util/ArrayList", "fastRemove", "([Ljava/lang/Object;I)V"⟩, 3), (⟨"BlockLayer$Disk", "passUntilEnd", "(I)I"⟩, 11), (⟨"BlockLayer$Disk", "end", "(LBlockLayer$Request;)V"⟩, 11), (⟨"BlockLayer$Disk", "valueInside", "(I)I"⟩, 11), (⟨"java/util/ArrayList", "add", "(Ljava/lang/Object;[Ljava/lang/Object;I)V"⟩, 3), (⟨"java/util/ArrayList", "grow", "()[Ljava/lang/Object;"⟩, 3), (⟨"java/util/ArrayList", "grow", "(I)[Ljava/lang/Object;"⟩, 3), (⟨"BlockLayer$Disk", "moveToMedia", "(I)V"⟩, 11), (⟨"BlockLayer", "newestOf", "(I)I"⟩, 7), (⟨"BlockLayer", "liveRequest", "(I)LBlockLayer$Request;"⟩, 7)]
theorem lw_r1 : ∀ q ∈ lw_privs_1, lw_okq q := List.forall_mem_cons.mpr ⟨lw_p0, List.forall_mem_cons.mpr ⟨lw_p1, List.forall_mem_cons.mpr ⟨lw_p2, List.forall_mem_cons.mpr ⟨lw_p3, List.forall_mem_cons.mpr ⟨lw_p4, List.forall_mem_cons.mpr ⟨lw_p5, List.forall_mem_cons.mpr ⟨lw_p6, List.forall_mem_cons.mpr ⟨lw_p7, List.forall_mem_cons.mpr ⟨lw_p8, List.forall_mem_cons.mpr ⟨lw_p9, List.forall_mem_cons.mpr ⟨lw_p10, List.forall_mem_cons.mpr ⟨lw_p11, List.forall_mem_cons.mpr ⟨lw_p12, List.forall_mem_cons.mpr ⟨lw_p13, List.forall_mem_cons.mpr ⟨lw_p14, List.forall_mem_cons.mpr ⟨lw_p15, fun _ h => absurd h List.not_mem_nil⟩⟩⟩⟩⟩⟩⟩⟩⟩⟩⟩⟩⟩⟩⟩⟩
theorem lw_p16 : lw_okq (⟨"java/lang/Throwable", "fillInStackTrace", "(I)Ljava/lang/Throwable;"⟩, 6) := ⟨⟨by decide +kernel, by decide +kernel⟩, List.mem_of_getElem? (i := 480) (by decide +kernel), List.mem_of_getElem? (i := 478) (by decide +kernel), List.mem_of_getElem? (i := 479) (by decide +kernel)⟩
theorem lw_p17 : lw_okq (⟨"BlockLayer", "requireQueueRoom", "(I)V"⟩, 7) := ⟨⟨by decide +kernel, by decide +kernel⟩, List.mem_of_getElem? (i := 24) (by decide +kernel), List.mem_of_getElem? (i := 510) (by decide +kernel), List.mem_of_getElem? (i := 511) (by decide +kernel)⟩
theorem lw_p18 : lw_okq (⟨"BlockLayer", "makeBufferRoom", "()V"⟩, 7) := ⟨⟨by decide +kernel, by decide +kernel⟩, List.mem_of_getElem? (i := 24) (by decide +kernel), List.mem_of_getElem? (i := 530) (by decide +kernel), List.mem_of_getElem? (i := 531) (by decide +kernel)⟩
theorem lw_p19 : lw_okq (⟨"BlockLayer", "writeBack", "(LBlockLayer$Copy;)V"⟩, 7) := ⟨⟨by decide +kernel, by decide +kernel⟩, List.mem_of_getElem? (i := 24) (by decide +kernel), List.mem_of_getElem? (i := 535) (by decide +kernel), List.mem_of_getElem? (i := 536) (by decide +kernel)⟩
theorem lw_p20 : lw_okq (⟨"BlockLayer", "makeRequest", "(III)LBlockLayer$Request;"⟩, 7) := ⟨⟨by decide +kernel, by decide +kernel⟩, List.mem_of_getElem? (i := 24) (by decide +kernel), List.mem_of_getElem? (i := 543) (by decide +kernel), List.mem_of_getElem? (i := 544) (by decide +kernel)⟩
theorem lw_p21 : lw_okq (⟨"BlockLayerModel", "bufferOf", "(I)I"⟩, 29) := ⟨⟨by decide +kernel, by decide +kernel⟩, List.mem_of_getElem? (i := 668) (by decide +kernel), List.mem_of_getElem? (i := 774) (by decide +kernel), List.mem_of_getElem? (i := 775) (by decide +kernel)⟩
theorem lw_p22 : lw_okq (⟨"BlockLayerModel", "closeUp", "(I)V"⟩, 29) := ⟨⟨by decide +kernel, by decide +kernel⟩, List.mem_of_getElem? (i := 668) (by decide +kernel), List.mem_of_getElem? (i := 778) (by decide +kernel), List.mem_of_getElem? (i := 779) (by decide +kernel)⟩
theorem lw_p23 : lw_okq (⟨"BlockLayerModel", "putLast", "(IIZ)V"⟩, 29) := ⟨⟨by decide +kernel, by decide +kernel⟩, List.mem_of_getElem? (i := 668) (by decide +kernel), List.mem_of_getElem? (i := 782) (by decide +kernel), List.mem_of_getElem? (i := 783) (by decide +kernel)⟩
theorem lw_p24 : lw_okq (⟨"BlockLayerModel", "makeRoom", "()V"⟩, 29) := ⟨⟨by decide +kernel, by decide +kernel⟩, List.mem_of_getElem? (i := 668) (by decide +kernel), List.mem_of_getElem? (i := 786) (by decide +kernel), List.mem_of_getElem? (i := 787) (by decide +kernel)⟩
theorem lw_p25 : lw_okq (⟨"BlockLayerModel", "ask", "(III)V"⟩, 29) := ⟨⟨by decide +kernel, by decide +kernel⟩, List.mem_of_getElem? (i := 668) (by decide +kernel), List.mem_of_getElem? (i := 790) (by decide +kernel), List.mem_of_getElem? (i := 791) (by decide +kernel)⟩
theorem lw_p26 : lw_okq (⟨"BlockLayerModel", "beginOne", "()V"⟩, 29) := ⟨⟨by decide +kernel, by decide +kernel⟩, List.mem_of_getElem? (i := 668) (by decide +kernel), List.mem_of_getElem? (i := 794) (by decide +kernel), List.mem_of_getElem? (i := 795) (by decide +kernel)⟩
theorem lw_p27 : lw_okq (⟨"BlockLayerModel", "chosen", "()I"⟩, 29) := ⟨⟨by decide +kernel, by decide +kernel⟩, List.mem_of_getElem? (i := 668) (by decide +kernel), List.mem_of_getElem? (i := 798) (by decide +kernel), List.mem_of_getElem? (i := 799) (by decide +kernel)⟩
theorem lw_p28 : lw_okq (⟨"BlockLayerModel", "nearest", "(I)I"⟩, 29) := ⟨⟨by decide +kernel, by decide +kernel⟩, List.mem_of_getElem? (i := 668) (by decide +kernel), List.mem_of_getElem? (i := 802) (by decide +kernel), List.mem_of_getElem? (i := 803) (by decide +kernel)⟩
theorem lw_p29 : lw_okq (⟨"BlockLayerModel", "isReady", "(I)Z"⟩, 29) := ⟨⟨by decide +kernel, by decide +kernel⟩, List.mem_of_getElem? (i := 668) (by decide +kernel), List.mem_of_getElem? (i := 806) (by decide +kernel), List.mem_of_getElem? (i := 807) (by decide +kernel)⟩
theorem lw_p30 : lw_okq (⟨"BlockLayerModel", "distance", "(II)I"⟩, 29) := ⟨⟨by decide +kernel, by decide +kernel⟩, List.mem_of_getElem? (i := 668) (by decide +kernel), List.mem_of_getElem? (i := 810) (by decide +kernel), List.mem_of_getElem? (i := 811) (by decide +kernel)⟩
theorem lw_p31 : lw_okq (⟨"BlockLayerModel", "track", "(I)I"⟩, 29) := ⟨⟨by decide +kernel, by decide +kernel⟩, List.mem_of_getElem? (i := 668) (by decide +kernel), List.mem_of_getElem? (i := 814) (by decide +kernel), List.mem_of_getElem? (i := 815) (by decide +kernel)⟩
def lw_privs_2 : List (MethodName × Nat) := [(⟨"java/lang/Throwable", "fillInStackTrace", "(I)Ljava/lang/Throwable;"⟩, 6), (⟨"BlockLayer", "requireQueueRoom", "(I)V"⟩, 7), (⟨"BlockLayer", "makeBufferRoom", "()V"⟩, 7), (⟨"BlockLayer", "writeBack", "(LBlockLayer$Copy;)V"⟩, 7), (⟨"BlockLayer", "makeRequest", "(III)LBlockLayer$Request;"⟩, 7), (⟨"BlockLayerModel", "bufferOf", "(I)I"⟩, 29), (⟨"BlockLayerModel", "closeUp", "(I)V"⟩, 29), (⟨"BlockLayerModel", "putLast", "(IIZ)V"⟩, 29), (⟨"BlockLayerModel", "makeRoom", "()V"⟩, 29), (⟨"BlockLayerModel", "ask", "(III)V"⟩, 29), (⟨"BlockLayerModel", "beginOne", "()V"⟩, 29), (⟨"BlockLayerModel", "chosen", "()I"⟩, 29), (⟨"BlockLayerModel", "nearest", "(I)I"⟩, 29), (⟨"BlockLayerModel", "isReady", "(I)Z"⟩, 29), (⟨"BlockLayerModel", "distance", "(II)I"⟩, 29), (⟨"BlockLayerModel", "track", "(I)I"⟩, 29)]
theorem lw_r2 : ∀ q ∈ lw_privs_2, lw_okq q := List.forall_mem_cons.mpr ⟨lw_p16, List.forall_mem_cons.mpr ⟨lw_p17, List.forall_mem_cons.mpr ⟨lw_p18, List.forall_mem_cons.mpr ⟨lw_p19, List.forall_mem_cons.mpr ⟨lw_p20, List.forall_mem_cons.mpr ⟨lw_p21, List.forall_mem_cons.mpr ⟨lw_p22, List.forall_mem_cons.mpr ⟨lw_p23, List.forall_mem_cons.mpr ⟨lw_p24, List.forall_mem_cons.mpr ⟨lw_p25, List.forall_mem_cons.mpr ⟨lw_p26, List.forall_mem_cons.mpr ⟨lw_p27, List.forall_mem_cons.mpr ⟨lw_p28, List.forall_mem_cons.mpr ⟨lw_p29, List.forall_mem_cons.mpr ⟨lw_p30, List.forall_mem_cons.mpr ⟨lw_p31, fun _ h => absurd h List.not_mem_nil⟩⟩⟩⟩⟩⟩⟩⟩⟩⟩⟩⟩⟩⟩⟩⟩
theorem lw_p32 : lw_okq (⟨"BlockLayerModel", "lowest", "()I"⟩, 29) := ⟨⟨by decide +kernel, by decide +kernel⟩, List.mem_of_getElem? (i := 668) (by decide +kernel), List.mem_of_getElem? (i := 818) (by decide +kernel), List.mem_of_getElem? (i := 819) (by decide +kernel)⟩
theorem lw_p33 : lw_okq (⟨"BlockLayerModel", "copyRequest", "(II)V"⟩, 29) := ⟨⟨by decide +kernel, by decide +kernel⟩, List.mem_of_getElem? (i := 668) (by decide +kernel), List.mem_of_getElem? (i := 822) (by decide +kernel), List.mem_of_getElem? (i := 823) (by decide +kernel)⟩
theorem lw_p34 : lw_okq (⟨"BlockLayerModel", "endOne", "()V"⟩, 29) := ⟨⟨by decide +kernel, by decide +kernel⟩, List.mem_of_getElem? (i := 668) (by decide +kernel), List.mem_of_getElem? (i := 826) (by decide +kernel), List.mem_of_getElem? (i := 827) (by decide +kernel)⟩
theorem lw_p35 : lw_okq (⟨"BlockLayerModel", "valueAt", "(I)I"⟩, 29) := ⟨⟨by decide +kernel, by decide +kernel⟩, List.mem_of_getElem? (i := 668) (by decide +kernel), List.mem_of_getElem? (i := 830) (by decide +kernel), List.mem_of_getElem? (i := 831) (by decide +kernel)⟩
theorem lw_p36 : lw_okq (⟨"BlockLayerModel", "cache", "(II)V"⟩, 29) := ⟨⟨by decide +kernel, by decide +kernel⟩, List.mem_of_getElem? (i := 668) (by decide +kernel), List.mem_of_getElem? (i := 834) (by decide +kernel), List.mem_of_getElem? (i := 835) (by decide +kernel)⟩
theorem lw_p37 : lw_okq (⟨"BlockLayerModel", "newestOf", "(I)I"⟩, 29) := ⟨⟨by decide +kernel, by decide +kernel⟩, List.mem_of_getElem? (i := 668) (by decide +kernel), List.mem_of_getElem? (i := 862) (by decide +kernel), List.mem_of_getElem? (i := 863) (by decide +kernel)⟩
def lw_privs_3 : List (MethodName × Nat) := [(⟨"BlockLayerModel", "lowest", "()I"⟩, 29), (⟨"BlockLayerModel", "copyRequest", "(II)V"⟩, 29), (⟨"BlockLayerModel", "endOne", "()V"⟩, 29), (⟨"BlockLayerModel", "valueAt", "(I)I"⟩, 29), (⟨"BlockLayerModel", "cache", "(II)V"⟩, 29), (⟨"BlockLayerModel", "newestOf", "(I)I"⟩, 29)]
theorem lw_r3 : ∀ q ∈ lw_privs_3, lw_okq q := List.forall_mem_cons.mpr ⟨lw_p32, List.forall_mem_cons.mpr ⟨lw_p33, List.forall_mem_cons.mpr ⟨lw_p34, List.forall_mem_cons.mpr ⟨lw_p35, List.forall_mem_cons.mpr ⟨lw_p36, List.forall_mem_cons.mpr ⟨lw_p37, fun _ h => absurd h List.not_mem_nil⟩⟩⟩⟩⟩⟩
def lw_privs : List (MethodName × Nat) := lw_privs_1 ++ (lw_privs_2 ++ (lw_privs_3))
def lw_tbl : List Cond := k2_sels lw_privs ++ tables_1
theorem lw_privs_ok : ∀ q ∈ lw_privs, lw_okq q := by
  show ∀ q ∈ lw_privs_1 ++ (lw_privs_2 ++ (lw_privs_3)), lw_okq q
  exact List.forall_mem_append.mpr ⟨lw_r1, List.forall_mem_append.mpr ⟨lw_r2, lw_r3⟩⟩
end
section
abbrev R_BL : String := "BlockLayer"
abbrev R_CS : String := "BlockLayer$Copies"
abbrev R_CP : String := "BlockLayer$Copy"
abbrev R_DK : String := "BlockLayer$Disk"
abbrev R_QU : String := "BlockLayer$Queue"
abbrev R_RQ : String := "BlockLayer$Request"
abbrev R_MD : String := "BlockLayerModel"
abbrev R_LW : String := "BlockLayerLaw"
abbrev R_AL : String := "java/util/ArrayList"
abbrev R_AB : String := "java/util/AbstractList"
abbrev R_AC : String := "java/util/AbstractCollection"
abbrev R_OB : String := "java/util/Objects"
abbrev R_PR : String := "jdk/internal/util/Preconditions"
abbrev R_AS : String := "jdk/internal/util/ArraysSupport"
abbrev R_AR : String := "java/util/Arrays"
abbrev R_MA : String := "java/lang/Math"
abbrev R_JO : String := "java/lang/Object"
def T_AL : u_T := fun k => match k with
  | 0 => ("java/util/ArrayList", "elementData", "[Ljava/lang/Object;", false)
  | 1 => ("java/util/ArrayList", "size", "I", false)
  | _ => ("java/util/AbstractList", "modCount", "I", false)
def ty_AL : Nat → FieldType := fun k => match k with
  | 0 => .array (.object "java/lang/Object")
  | 1 => .int
  | _ => .int
def T_CP : u_T := fun k => match k with
  | 0 => ("BlockLayer$Copy", "block", "I", true)
  | 1 => ("BlockLayer$Copy", "value", "I", false)
  | _ => ("BlockLayer$Copy", "dirty", "Z", false)
def ty_CP : Nat → FieldType := fun k => match k with
  | 0 => .int
  | 1 => .int
  | _ => .boolean
def T_CS : u_T := fun k => match k with
  | _ => ("BlockLayer$Copies", "inOrder", "Ljava/util/ArrayList;", true)
def ty_CS : Nat → FieldType := fun k => match k with
  | _ => .object "java/util/ArrayList"
def T_RQ : u_T := fun k => match k with
  | 0 => ("BlockLayer$Request", "number", "I", true)
  | 1 => ("BlockLayer$Request", "kind", "I", true)
  | 2 => ("BlockLayer$Request", "block", "I", true)
  | 3 => ("BlockLayer$Request", "made", "I", true)
  | 4 => ("BlockLayer$Request", "value", "I", false)
  | _ => ("BlockLayer$Request", "ended", "Z", false)
def ty_RQ : Nat → FieldType := fun k => match k with
  | 0 => .int
  | 1 => .int
  | 2 => .int
  | 3 => .int
  | 4 => .int
  | _ => .boolean
def T_QU : u_T := fun k => match k with
  | _ => ("BlockLayer$Queue", "waiting", "Ljava/util/ArrayList;", true)
def ty_QU : Nat → FieldType := fun k => match k with
  | _ => .object "java/util/ArrayList"
def T_DK : u_T := fun k => match k with
  | 0 => ("BlockLayer$Disk", "queue", "LBlockLayer$Queue;", true)
  | 1 => ("BlockLayer$Disk", "onMedia", "[I", true)
  | 2 => ("BlockLayer$Disk", "cache", "LBlockLayer$Copies;", true)
  | 3 => ("BlockLayer$Disk", "serving", "LBlockLayer$Request;", false)
  | 4 => ("BlockLayer$Disk", "unitsLeft", "I", false)
  | 5 => ("BlockLayer$Disk", "time", "I", false)
  | 6 => ("BlockLayer$Disk", "head", "I", false)
  | 7 => ("BlockLayer$Disk", "goesUp", "Z", false)
  | 8 => ("BlockLayer$Disk", "way", "I", false)
  | 9 => ("BlockLayer$Disk", "served", "I", false)
  | _ => ("BlockLayer$Disk", "idleUnits", "I", false)
def ty_DK : Nat → FieldType := fun k => match k with
  | 0 => .object "BlockLayer$Queue"
  | 1 => .array .int
  | 2 => .object "BlockLayer$Copies"
  | 3 => .object "BlockLayer$Request"
  | 4 => .int
  | 5 => .int
  | 6 => .int
  | 7 => .boolean
  | 8 => .int
  | 9 => .int
  | _ => .int
def T_BL : u_T := fun k => match k with
  | 0 => ("BlockLayer", "buffers", "LBlockLayer$Copies;", true)
  | 1 => ("BlockLayer", "disk", "LBlockLayer$Disk;", true)
  | 2 => ("BlockLayer", "nextNumber", "I", false)
  | 3 => ("BlockLayer", "hits", "I", false)
  | 4 => ("BlockLayer", "misses", "I", false)
  | 5 => ("BlockLayer", "evictions", "I", false)
  | _ => ("BlockLayer", "absorbed", "I", false)
def ty_BL : Nat → FieldType := fun k => match k with
  | 0 => .object "BlockLayer$Copies"
  | 1 => .object "BlockLayer$Disk"
  | 2 => .int
  | 3 => .int
  | 4 => .int
  | 5 => .int
  | _ => .int
def T_MD : u_T := fun k => match k with
  | 0 => ("BlockLayerModel", "code", "I", false)
  | 1 => ("BlockLayerModel", "now", "I", false)
  | 2 => ("BlockLayerModel", "idle", "I", false)
  | 3 => ("BlockLayerModel", "hits", "I", false)
  | 4 => ("BlockLayerModel", "misses", "I", false)
  | 5 => ("BlockLayerModel", "evictions", "I", false)
  | 6 => ("BlockLayerModel", "absorbed", "I", false)
  | 7 => ("BlockLayerModel", "served", "I", false)
  | 8 => ("BlockLayerModel", "policy", "I", false)
  | 9 => ("BlockLayerModel", "media", "[I", true)
  | 10 => ("BlockLayerModel", "buffers", "I", false)
  | 11 => ("BlockLayerModel", "bufferBlock", "[I", true)
  | 12 => ("BlockLayerModel", "bufferValue", "[I", true)
  | 13 => ("BlockLayerModel", "dirty", "[Z", true)
  | 14 => ("BlockLayerModel", "numbers", "I", false)
  | 15 => ("BlockLayerModel", "queue", "I", false)
  | 16 => ("BlockLayerModel", "number", "[I", true)
  | 17 => ("BlockLayerModel", "kind", "[I", true)
  | 18 => ("BlockLayerModel", "block", "[I", true)
  | 19 => ("BlockLayerModel", "value", "[I", true)
  | 20 => ("BlockLayerModel", "made", "[I", true)
  | 21 => ("BlockLayerModel", "cached", "I", false)
  | 22 => ("BlockLayerModel", "cacheBlock", "[I", true)
  | 23 => ("BlockLayerModel", "cacheValue", "[I", true)
  | 24 => ("BlockLayerModel", "head", "I", false)
  | 25 => ("BlockLayerModel", "up", "Z", false)
  | 26 => ("BlockLayerModel", "serves", "Z", false)
  | 27 => ("BlockLayerModel", "until", "I", false)
  | _ => ("BlockLayerModel", "lastRead", "I", false)
def ty_MD : Nat → FieldType := fun k => match k with
  | 0 => .int
  | 1 => .int
  | 2 => .int
  | 3 => .int
  | 4 => .int
  | 5 => .int
  | 6 => .int
  | 7 => .int
  | 8 => .int
  | 9 => .array .int
  | 10 => .int
  | 11 => .array .int
  | 12 => .array .int
  | 13 => .array .boolean
  | 14 => .int
  | 15 => .int
  | 16 => .array .int
  | 17 => .array .int
  | 18 => .array .int
  | 19 => .array .int
  | 20 => .array .int
  | 21 => .int
  | 22 => .array .int
  | 23 => .array .int
  | 24 => .int
  | 25 => .boolean
  | 26 => .boolean
  | 27 => .int
  | _ => .int
abbrev vwCl : List vw_C := [(R_AL, T_AL, 3), (R_CP, T_CP, 3), (R_CS, T_CS, 1), (R_RQ, T_RQ, 6), (R_QU, T_QU, 1), (R_DK, T_DK, 11), (R_BL, T_BL, 7), (R_MD, T_MD, 29)]
def G : List Cond := lw_tbl.filter goodWord
theorem gmk {w : Cond} (i : Nat) (h : lw_tbl[i]? = some w) (hg : goodWord w = true) : w ∈ G := List.mem_filter.mpr ⟨List.mem_of_getElem? h, hg⟩
theorem G_good : ∀ w ∈ G, goodWord w = true := fun w h => (List.mem_filter.mp h).2
theorem G_tbl : ∀ w ∈ G, w ∈ lw_tbl := fun w h => (List.mem_filter.mp h).1
abbrev b_AB_init : ByteArray := prog_22_method_1_code
def y_AB_init : MethodName := ⟨R_AB, "<init>", "()V"⟩
abbrev w_AB_init : List Cond := .code y_AB_init b_AB_init 1 none :: G
abbrev b_AC_init : ByteArray := prog_21_method_1_code
def y_AC_init : MethodName := ⟨R_AC, "<init>", "()V"⟩
abbrev w_AC_init : List Cond := .code y_AC_init b_AC_init 1 none :: G
abbrev b_AL_add0 : ByteArray := prog_23_method_25_code
def y_AL_add0 : MethodName := ⟨R_AL, "add", "(Ljava/lang/Object;)Z"⟩
abbrev w_AL_add0 : List Cond := .code y_AL_add0 b_AL_add0 2 (some .boolean) :: G
abbrev b_AL_add1 : ByteArray := prog_23_method_24_code
def y_AL_add1 : MethodName := ⟨R_AL, "add", "(Ljava/lang/Object;[Ljava/lang/Object;I)V"⟩
abbrev w_AL_add1 : List Cond := .code y_AL_add1 b_AL_add1 4 none :: G
abbrev b_AL_clear : ByteArray := prog_23_method_40_code
def y_AL_clear : MethodName := ⟨R_AL, "clear", "()V"⟩
abbrev w_AL_clear : List Cond := .code y_AL_clear b_AL_clear 4 none :: G
abbrev b_AL_elementData : ByteArray := prog_23_method_18_code
def y_AL_elementData : MethodName := ⟨R_AL, "elementData", "(I)Ljava/lang/Object;"⟩
abbrev w_AL_elementData : List Cond := .code y_AL_elementData b_AL_elementData 2 (some (.object "java/lang/Object")) :: G
abbrev b_AL_fastRemove : ByteArray := prog_23_method_39_code
def y_AL_fastRemove : MethodName := ⟨R_AL, "fastRemove", "([Ljava/lang/Object;I)V"⟩
abbrev w_AL_fastRemove : List Cond := .code y_AL_fastRemove b_AL_fastRemove 4 none :: G
abbrev b_AL_get : ByteArray := prog_23_method_20_code
def y_AL_get : MethodName := ⟨R_AL, "get", "(I)Ljava/lang/Object;"⟩
abbrev w_AL_get : List Cond := .code y_AL_get b_AL_get 2 (some (.object "java/lang/Object")) :: G
abbrev b_AL_grow0 : ByteArray := prog_23_method_7_code
def y_AL_grow0 : MethodName := ⟨R_AL, "grow", "()[Ljava/lang/Object;"⟩
abbrev w_AL_grow0 : List Cond := .code y_AL_grow0 b_AL_grow0 1 (some (.array (.object "java/lang/Object"))) :: G
abbrev b_AL_grow1 : ByteArray := prog_23_method_6_code
def y_AL_grow1 : MethodName := ⟨R_AL, "grow", "(I)[Ljava/lang/Object;"⟩
abbrev w_AL_grow1 : List Cond := .code y_AL_grow1 b_AL_grow1 4 (some (.array (.object "java/lang/Object"))) :: G
abbrev b_AL_init : ByteArray := prog_23_method_2_code
def y_AL_init : MethodName := ⟨R_AL, "<init>", "()V"⟩
abbrev w_AL_init : List Cond := .code y_AL_init b_AL_init 1 none :: G
abbrev b_AL_isEmpty : ByteArray := prog_23_method_9_code
def y_AL_isEmpty : MethodName := ⟨R_AL, "isEmpty", "()Z"⟩
abbrev w_AL_isEmpty : List Cond := .code y_AL_isEmpty b_AL_isEmpty 1 (some .boolean) :: G
abbrev b_AL_remove : ByteArray := prog_23_method_29_code
def y_AL_remove : MethodName := ⟨R_AL, "remove", "(I)Ljava/lang/Object;"⟩
abbrev w_AL_remove : List Cond := .code y_AL_remove b_AL_remove 4 (some (.object "java/lang/Object")) :: G
abbrev b_AL_size : ByteArray := prog_23_method_8_code
def y_AL_size : MethodName := ⟨R_AL, "size", "()I"⟩
abbrev w_AL_size : List Cond := .code y_AL_size b_AL_size 1 (some .int) :: G
abbrev b_AR_copyOf0 : ByteArray := prog_24_method_119_code
def y_AR_copyOf0 : MethodName := ⟨R_AR, "copyOf", "([Ljava/lang/Object;I)[Ljava/lang/Object;"⟩
abbrev w_AR_copyOf0 : List Cond := .code y_AR_copyOf0 b_AR_copyOf0 2 (some (.array (.object "java/lang/Object"))) :: G
abbrev b_AR_copyOf1 : ByteArray := prog_24_method_120_code
def y_AR_copyOf1 : MethodName := ⟨R_AR, "copyOf", "([Ljava/lang/Object;ILjava/lang/Class;)[Ljava/lang/Object;"⟩
abbrev w_AR_copyOf1 : List Cond := .code y_AR_copyOf1 b_AR_copyOf1 4 (some (.array (.object "java/lang/Object"))) :: G
abbrev b_AS_hugeLength : ByteArray := prog_30_method_28_code
def y_AS_hugeLength : MethodName := ⟨R_AS, "hugeLength", "(II)I"⟩
abbrev w_AS_hugeLength : List Cond := .code y_AS_hugeLength b_AS_hugeLength 3 (some .int) :: G
abbrev b_AS_newLength : ByteArray := prog_30_method_27_code
def y_AS_newLength : MethodName := ⟨R_AS, "newLength", "(III)I"⟩
abbrev w_AS_newLength : List Cond := .code y_AS_newLength b_AS_newLength 4 (some .int) :: G
abbrev b_BL_buffer : ByteArray := prog_1_method_11_code
def y_BL_buffer : MethodName := ⟨R_BL, "buffer", "(I)I"⟩
abbrev w_BL_buffer : List Cond := .code y_BL_buffer b_BL_buffer 3 (some .int) :: G
abbrev b_BL_crash : ByteArray := prog_1_method_8_code
def y_BL_crash : MethodName := ⟨R_BL, "crash", "()I"⟩
abbrev w_BL_crash : List Cond := .code y_BL_crash b_BL_crash 3 (some .int) :: G
abbrev b_BL_drain : ByteArray := prog_1_method_6_code
def y_BL_drain : MethodName := ⟨R_BL, "drain", "()I"⟩
abbrev w_BL_drain : List Cond := .code y_BL_drain b_BL_drain 3 (some .int) :: G
abbrev b_BL_init : ByteArray := prog_1_method_1_code
def y_BL_init : MethodName := ⟨R_BL, "<init>", "()V"⟩
abbrev w_BL_init : List Cond := .code y_BL_init b_BL_init 1 none :: G
abbrev b_BL_liveRequest : ByteArray := prog_1_method_21_code
def y_BL_liveRequest : MethodName := ⟨R_BL, "liveRequest", "(I)LBlockLayer$Request;"⟩
abbrev w_BL_liveRequest : List Cond := .code y_BL_liveRequest b_BL_liveRequest 3 (some (.object "BlockLayer$Request")) :: G
abbrev b_BL_load : ByteArray := prog_1_method_2_code
def y_BL_load : MethodName := ⟨R_BL, "load", "(I)I"⟩
abbrev w_BL_load : List Cond := .code y_BL_load b_BL_load 5 (some .int) :: G
abbrev b_BL_makeBufferRoom : ByteArray := prog_1_method_18_code
def y_BL_makeBufferRoom : MethodName := ⟨R_BL, "makeBufferRoom", "()V"⟩
abbrev w_BL_makeBufferRoom : List Cond := .code y_BL_makeBufferRoom b_BL_makeBufferRoom 2 none :: G
abbrev b_BL_makeRequest : ByteArray := prog_1_method_20_code
def y_BL_makeRequest : MethodName := ⟨R_BL, "makeRequest", "(III)LBlockLayer$Request;"⟩
abbrev w_BL_makeRequest : List Cond := .code y_BL_makeRequest b_BL_makeRequest 5 (some (.object "BlockLayer$Request")) :: G
abbrev b_BL_media : ByteArray := prog_1_method_10_code
def y_BL_media : MethodName := ⟨R_BL, "media", "(I)I"⟩
abbrev w_BL_media : List Cond := .code y_BL_media b_BL_media 2 (some .int) :: G
abbrev b_BL_newest : ByteArray := prog_1_method_9_code
def y_BL_newest : MethodName := ⟨R_BL, "newest", "(I)I"⟩
abbrev w_BL_newest : List Cond := .code y_BL_newest b_BL_newest 2 (some .int) :: G
abbrev b_BL_newestOf : ByteArray := prog_1_method_22_code
def y_BL_newestOf : MethodName := ⟨R_BL, "newestOf", "(I)I"⟩
abbrev w_BL_newestOf : List Cond := .code y_BL_newestOf b_BL_newestOf 4 (some .int) :: G
abbrev b_BL_policy : ByteArray := prog_1_method_7_code
def y_BL_policy : MethodName := ⟨R_BL, "policy", "(I)I"⟩
abbrev w_BL_policy : List Cond := .code y_BL_policy b_BL_policy 3 (some .int) :: G
abbrev b_BL_queued : ByteArray := prog_1_method_13_code
def y_BL_queued : MethodName := ⟨R_BL, "queued", "(I)I"⟩
abbrev w_BL_queued : List Cond := .code y_BL_queued b_BL_queued 3 (some .int) :: G
abbrev b_BL_request : ByteArray := prog_1_method_14_code
def y_BL_request : MethodName := ⟨R_BL, "request", "(II)I"⟩
abbrev w_BL_request : List Cond := .code y_BL_request b_BL_request 4 (some .int) :: G
abbrev b_BL_requireBlock : ByteArray := prog_1_method_16_code
def y_BL_requireBlock : MethodName := ⟨R_BL, "requireBlock", "(I)V"⟩
abbrev w_BL_requireBlock : List Cond := .code y_BL_requireBlock b_BL_requireBlock 1 none :: G
abbrev b_BL_requireQueueRoom : ByteArray := prog_1_method_17_code
def y_BL_requireQueueRoom : MethodName := ⟨R_BL, "requireQueueRoom", "(I)V"⟩
abbrev w_BL_requireQueueRoom : List Cond := .code y_BL_requireQueueRoom b_BL_requireQueueRoom 2 none :: G
abbrev b_BL_save : ByteArray := prog_1_method_3_code
def y_BL_save : MethodName := ⟨R_BL, "save", "(II)I"⟩
abbrev w_BL_save : List Cond := .code y_BL_save b_BL_save 5 (some .int) :: G
abbrev b_BL_step : ByteArray := prog_1_method_5_code
def y_BL_step : MethodName := ⟨R_BL, "step", "(I)I"⟩
abbrev w_BL_step : List Cond := .code y_BL_step b_BL_step 2 (some .int) :: G
abbrev b_BL_sync : ByteArray := prog_1_method_4_code
def y_BL_sync : MethodName := ⟨R_BL, "sync", "()I"⟩
abbrev w_BL_sync : List Cond := .code y_BL_sync b_BL_sync 4 (some .int) :: G
abbrev b_BL_told : ByteArray := prog_1_method_15_code
def y_BL_told : MethodName := ⟨R_BL, "told", "(I)I"⟩
abbrev w_BL_told : List Cond := .code y_BL_told b_BL_told 2 (some .int) :: G
abbrev b_BL_trackOf : ByteArray := prog_1_method_23_code
def y_BL_trackOf : MethodName := ⟨R_BL, "trackOf", "(I)I"⟩
abbrev w_BL_trackOf : List Cond := .code y_BL_trackOf b_BL_trackOf 1 (some .int) :: G
abbrev b_BL_used : ByteArray := prog_1_method_12_code
def y_BL_used : MethodName := ⟨R_BL, "used", "(I)I"⟩
abbrev w_BL_used : List Cond := .code y_BL_used b_BL_used 3 (some .int) :: G
abbrev b_BL_writeBack : ByteArray := prog_1_method_19_code
def y_BL_writeBack : MethodName := ⟨R_BL, "writeBack", "(LBlockLayer$Copy;)V"⟩
abbrev w_BL_writeBack : List Cond := .code y_BL_writeBack b_BL_writeBack 3 none :: G
abbrev b_CP_init : ByteArray := prog_3_method_1_code
def y_CP_init : MethodName := ⟨R_CP, "<init>", "(II)V"⟩
abbrev w_CP_init : List Cond := .code y_CP_init b_CP_init 3 none :: G
abbrev b_CS_at : ByteArray := prog_2_method_3_code
def y_CS_at : MethodName := ⟨R_CS, "at", "(I)LBlockLayer$Copy;"⟩
abbrev w_CS_at : List Cond := .code y_CS_at b_CS_at 2 (some (.object "BlockLayer$Copy")) :: G
abbrev b_CS_clear : ByteArray := prog_2_method_8_code
def y_CS_clear : MethodName := ⟨R_CS, "clear", "()V"⟩
abbrev w_CS_clear : List Cond := .code y_CS_clear b_CS_clear 1 none :: G
abbrev b_CS_copyOf : ByteArray := prog_2_method_4_code
def y_CS_copyOf : MethodName := ⟨R_CS, "copyOf", "(I)LBlockLayer$Copy;"⟩
abbrev w_CS_copyOf : List Cond := .code y_CS_copyOf b_CS_copyOf 3 (some (.object "BlockLayer$Copy")) :: G
abbrev b_CS_dirtyOfLeastBlock : ByteArray := prog_2_method_7_code
def y_CS_dirtyOfLeastBlock : MethodName := ⟨R_CS, "dirtyOfLeastBlock", "()LBlockLayer$Copy;"⟩
abbrev w_CS_dirtyOfLeastBlock : List Cond := .code y_CS_dirtyOfLeastBlock b_CS_dirtyOfLeastBlock 4 (some (.object "BlockLayer$Copy")) :: G
abbrev b_CS_init : ByteArray := prog_2_method_1_code
def y_CS_init : MethodName := ⟨R_CS, "<init>", "()V"⟩
abbrev w_CS_init : List Cond := .code y_CS_init b_CS_init 1 none :: G
abbrev b_CS_putLast : ByteArray := prog_2_method_5_code
def y_CS_putLast : MethodName := ⟨R_CS, "putLast", "(LBlockLayer$Copy;)V"⟩
abbrev w_CS_putLast : List Cond := .code y_CS_putLast b_CS_putLast 3 none :: G
abbrev b_CS_size : ByteArray := prog_2_method_2_code
def y_CS_size : MethodName := ⟨R_CS, "size", "()I"⟩
abbrev w_CS_size : List Cond := .code y_CS_size b_CS_size 1 (some .int) :: G
abbrev b_CS_takeFirst : ByteArray := prog_2_method_6_code
def y_CS_takeFirst : MethodName := ⟨R_CS, "takeFirst", "()LBlockLayer$Copy;"⟩
abbrev w_CS_takeFirst : List Cond := .code y_CS_takeFirst b_CS_takeFirst 1 (some (.object "BlockLayer$Copy")) :: G
abbrev b_DK_beginIfIdle : ByteArray := prog_4_method_10_code
def y_DK_beginIfIdle : MethodName := ⟨R_DK, "beginIfIdle", "()V"⟩
abbrev w_DK_beginIfIdle : List Cond := .code y_DK_beginIfIdle b_DK_beginIfIdle 3 none :: G
abbrev b_DK_chosenPlace : ByteArray := prog_4_method_13_code
def y_DK_chosenPlace : MethodName := ⟨R_DK, "chosenPlace", "()I"⟩
abbrev w_DK_chosenPlace : List Cond := .code y_DK_chosenPlace b_DK_chosenPlace 3 (some .int) :: G
abbrev b_DK_end : ByteArray := prog_4_method_11_code
def y_DK_end : MethodName := ⟨R_DK, "end", "(LBlockLayer$Request;)V"⟩
abbrev w_DK_end : List Cond := .code y_DK_end b_DK_end 2 none :: G
abbrev b_DK_hasWork : ByteArray := prog_4_method_2_code
def y_DK_hasWork : MethodName := ⟨R_DK, "hasWork", "()Z"⟩
abbrev w_DK_hasWork : List Cond := .code y_DK_hasWork b_DK_hasWork 1 (some .boolean) :: G
abbrev b_DK_init : ByteArray := prog_4_method_1_code
def y_DK_init : MethodName := ⟨R_DK, "<init>", "()V"⟩
abbrev w_DK_init : List Cond := .code y_DK_init b_DK_init 1 none :: G
abbrev b_DK_isOldUnderPolicy : ByteArray := prog_4_method_14_code
def y_DK_isOldUnderPolicy : MethodName := ⟨R_DK, "isOldUnderPolicy", "(LBlockLayer$Request;)Z"⟩
abbrev w_DK_isOldUnderPolicy : List Cond := .code y_DK_isOldUnderPolicy b_DK_isOldUnderPolicy 2 (some .boolean) :: G
abbrev b_DK_loseAllButMedia : ByteArray := prog_4_method_7_code
def y_DK_loseAllButMedia : MethodName := ⟨R_DK, "loseAllButMedia", "()V"⟩
abbrev w_DK_loseAllButMedia : List Cond := .code y_DK_loseAllButMedia b_DK_loseAllButMedia 1 none :: G
abbrev b_DK_moveToMedia : ByteArray := prog_4_method_12_code
def y_DK_moveToMedia : MethodName := ⟨R_DK, "moveToMedia", "(I)V"⟩
abbrev w_DK_moveToMedia : List Cond := .code y_DK_moveToMedia b_DK_moveToMedia 4 none :: G
abbrev b_DK_nearestPlace : ByteArray := prog_4_method_16_code
def y_DK_nearestPlace : MethodName := ⟨R_DK, "nearestPlace", "(I)I"⟩
abbrev w_DK_nearestPlace : List Cond := .code y_DK_nearestPlace b_DK_nearestPlace 7 (some .int) :: G
abbrev b_DK_pass : ByteArray := prog_4_method_3_code
def y_DK_pass : MethodName := ⟨R_DK, "pass", "(I)V"⟩
abbrev w_DK_pass : List Cond := .code y_DK_pass b_DK_pass 4 none :: G
abbrev b_DK_passToNextEnd : ByteArray := prog_4_method_4_code
def y_DK_passToNextEnd : MethodName := ⟨R_DK, "passToNextEnd", "()V"⟩
abbrev w_DK_passToNextEnd : List Cond := .code y_DK_passToNextEnd b_DK_passToNextEnd 1 none :: G
abbrev b_DK_passUntilEnd : ByteArray := prog_4_method_9_code
def y_DK_passUntilEnd : MethodName := ⟨R_DK, "passUntilEnd", "(I)I"⟩
abbrev w_DK_passUntilEnd : List Cond := .code y_DK_passUntilEnd b_DK_passUntilEnd 3 (some .int) :: G
abbrev b_DK_sideOfPolicy : ByteArray := prog_4_method_15_code
def y_DK_sideOfPolicy : MethodName := ⟨R_DK, "sideOfPolicy", "()I"⟩
abbrev w_DK_sideOfPolicy : List Cond := .code y_DK_sideOfPolicy b_DK_sideOfPolicy 1 (some .int) :: G
abbrev b_DK_tracksAway : ByteArray := prog_4_method_17_code
def y_DK_tracksAway : MethodName := ⟨R_DK, "tracksAway", "(II)I"⟩
abbrev w_DK_tracksAway : List Cond := .code y_DK_tracksAway b_DK_tracksAway 3 (some .int) :: G
abbrev b_DK_valueAfterServing : ByteArray := prog_4_method_6_code
def y_DK_valueAfterServing : MethodName := ⟨R_DK, "valueAfterServing", "(I)I"⟩
abbrev w_DK_valueAfterServing : List Cond := .code y_DK_valueAfterServing b_DK_valueAfterServing 2 (some .int) :: G
abbrev b_DK_valueInside : ByteArray := prog_4_method_8_code
def y_DK_valueInside : MethodName := ⟨R_DK, "valueInside", "(I)I"⟩
abbrev w_DK_valueInside : List Cond := .code y_DK_valueInside b_DK_valueInside 3 (some .int) :: G
abbrev b_DK_valueOnMedia : ByteArray := prog_4_method_5_code
def y_DK_valueOnMedia : MethodName := ⟨R_DK, "valueOnMedia", "(I)I"⟩
abbrev w_DK_valueOnMedia : List Cond := .code y_DK_valueOnMedia b_DK_valueOnMedia 2 (some .int) :: G
abbrev b_JO_init : ByteArray := object_method_1_code
def y_JO_init : MethodName := ⟨R_JO, "<init>", "()V"⟩
abbrev w_JO_init : List Cond := .code y_JO_init b_JO_init 1 none :: G
abbrev b_LW_buffer : ByteArray := method_10_code
def y_LW_buffer : MethodName := ⟨R_LW, "buffer", "(LBlockLayer;I[J)I"⟩
abbrev b_LW_law : ByteArray := code
def y_LW_law : MethodName := ⟨R_LW, "law", "([I)Z"⟩
abbrev b_LW_load : ByteArray := method_3_code
def y_LW_load : MethodName := ⟨R_LW, "load", "(LBlockLayer;I[J)I"⟩
abbrev b_LW_media : ByteArray := method_9_code
def y_LW_media : MethodName := ⟨R_LW, "media", "(LBlockLayer;I[J)I"⟩
abbrev b_LW_newest : ByteArray := method_8_code
def y_LW_newest : MethodName := ⟨R_LW, "newest", "(LBlockLayer;I[J)I"⟩
abbrev b_LW_policy : ByteArray := method_7_code
def y_LW_policy : MethodName := ⟨R_LW, "policy", "(LBlockLayer;I[J)I"⟩
abbrev b_LW_save : ByteArray := method_4_code
def y_LW_save : MethodName := ⟨R_LW, "save", "(LBlockLayer;II[J)I"⟩
abbrev b_LW_step : ByteArray := method_6_code
def y_LW_step : MethodName := ⟨R_LW, "step", "(LBlockLayer;I[J)I"⟩
abbrev b_LW_sync : ByteArray := method_5_code
def y_LW_sync : MethodName := ⟨R_LW, "sync", "(LBlockLayer;[J)I"⟩
abbrev b_MA_abs : ByteArray := prog_15_method_59_code
def y_MA_abs : MethodName := ⟨R_MA, "abs", "(I)I"⟩
abbrev w_MA_abs : List Cond := .code y_MA_abs b_MA_abs 1 (some .int) :: G
abbrev b_MA_max : ByteArray := prog_15_method_65_code
def y_MA_max : MethodName := ⟨R_MA, "max", "(II)I"⟩
abbrev w_MA_max : List Cond := .code y_MA_max b_MA_max 2 (some .int) :: G
abbrev b_MA_min : ByteArray := prog_15_method_69_code
def y_MA_min : MethodName := ⟨R_MA, "min", "(II)I"⟩
abbrev w_MA_min : List Cond := .code y_MA_min b_MA_min 2 (some .int) :: G
abbrev b_MD_ask : ByteArray := prog_8_method_8_code
def y_MD_ask : MethodName := ⟨R_MD, "ask", "(III)V"⟩
abbrev w_MD_ask : List Cond := .code y_MD_ask b_MD_ask 6 none :: G
abbrev b_MD_beginOne : ByteArray := prog_8_method_16_code
def y_MD_beginOne : MethodName := ⟨R_MD, "beginOne", "()V"⟩
abbrev w_MD_beginOne : List Cond := .code y_MD_beginOne b_MD_beginOne 3 none :: G
abbrev b_MD_buffer : ByteArray := prog_8_method_30_code
def y_MD_buffer : MethodName := ⟨R_MD, "buffer", "(I)I"⟩
abbrev w_MD_buffer : List Cond := .code y_MD_buffer b_MD_buffer 3 (some .int) :: G
abbrev b_MD_bufferOf : ByteArray := prog_8_method_4_code
def y_MD_bufferOf : MethodName := ⟨R_MD, "bufferOf", "(I)I"⟩
abbrev w_MD_bufferOf : List Cond := .code y_MD_bufferOf b_MD_bufferOf 4 (some .int) :: G
abbrev b_MD_cache : ByteArray := prog_8_method_18_code
def y_MD_cache : MethodName := ⟨R_MD, "cache", "(II)V"⟩
abbrev w_MD_cache : List Cond := .code y_MD_cache b_MD_cache 5 none :: G
abbrev b_MD_chosen : ByteArray := prog_8_method_14_code
def y_MD_chosen : MethodName := ⟨R_MD, "chosen", "()I"⟩
abbrev w_MD_chosen : List Cond := .code y_MD_chosen b_MD_chosen 2 (some .int) :: G
abbrev b_MD_closeUp : ByteArray := prog_8_method_5_code
def y_MD_closeUp : MethodName := ⟨R_MD, "closeUp", "(I)V"⟩
abbrev w_MD_closeUp : List Cond := .code y_MD_closeUp b_MD_closeUp 3 none :: G
abbrev b_MD_copyRequest : ByteArray := prog_8_method_15_code
def y_MD_copyRequest : MethodName := ⟨R_MD, "copyRequest", "(II)V"⟩
abbrev w_MD_copyRequest : List Cond := .code y_MD_copyRequest b_MD_copyRequest 3 none :: G
abbrev b_MD_crash : ByteArray := prog_8_method_27_code
def y_MD_crash : MethodName := ⟨R_MD, "crash", "()I"⟩
abbrev w_MD_crash : List Cond := .code y_MD_crash b_MD_crash 3 (some .int) :: G
abbrev b_MD_distance : ByteArray := prog_8_method_11_code
def y_MD_distance : MethodName := ⟨R_MD, "distance", "(II)I"⟩
abbrev w_MD_distance : List Cond := .code y_MD_distance b_MD_distance 4 (some .int) :: G
abbrev b_MD_drain : ByteArray := prog_8_method_24_code
def y_MD_drain : MethodName := ⟨R_MD, "drain", "()I"⟩
abbrev w_MD_drain : List Cond := .code y_MD_drain b_MD_drain 2 (some .int) :: G
abbrev b_MD_endOne : ByteArray := prog_8_method_19_code
def y_MD_endOne : MethodName := ⟨R_MD, "endOne", "()V"⟩
abbrev w_MD_endOne : List Cond := .code y_MD_endOne b_MD_endOne 2 none :: G
abbrev b_MD_init : ByteArray := prog_8_method_1_code
def y_MD_init : MethodName := ⟨R_MD, "<init>", "()V"⟩
abbrev w_MD_init : List Cond := .code y_MD_init b_MD_init 1 none :: G
abbrev b_MD_isBlock : ByteArray := prog_8_method_3_code
def y_MD_isBlock : MethodName := ⟨R_MD, "isBlock", "(I)Z"⟩
abbrev w_MD_isBlock : List Cond := .code y_MD_isBlock b_MD_isBlock 1 (some .boolean) :: G
abbrev b_MD_isReady : ByteArray := prog_8_method_9_code
def y_MD_isReady : MethodName := ⟨R_MD, "isReady", "(I)Z"⟩
abbrev w_MD_isReady : List Cond := .code y_MD_isReady b_MD_isReady 4 (some .boolean) :: G
abbrev b_MD_load : ByteArray := prog_8_method_20_code
def y_MD_load : MethodName := ⟨R_MD, "load", "(I)I"⟩
abbrev w_MD_load : List Cond := .code y_MD_load b_MD_load 5 (some .int) :: G
abbrev b_MD_lowest : ByteArray := prog_8_method_13_code
def y_MD_lowest : MethodName := ⟨R_MD, "lowest", "()I"⟩
abbrev w_MD_lowest : List Cond := .code y_MD_lowest b_MD_lowest 3 (some .int) :: G
abbrev b_MD_makeRoom : ByteArray := prog_8_method_7_code
def y_MD_makeRoom : MethodName := ⟨R_MD, "makeRoom", "()V"⟩
abbrev w_MD_makeRoom : List Cond := .code y_MD_makeRoom b_MD_makeRoom 4 none :: G
abbrev b_MD_media : ByteArray := prog_8_method_29_code
def y_MD_media : MethodName := ⟨R_MD, "media", "(I)I"⟩
abbrev w_MD_media : List Cond := .code y_MD_media b_MD_media 2 (some .int) :: G
abbrev b_MD_nearest : ByteArray := prog_8_method_12_code
def y_MD_nearest : MethodName := ⟨R_MD, "nearest", "(I)I"⟩
abbrev w_MD_nearest : List Cond := .code y_MD_nearest b_MD_nearest 5 (some .int) :: G
abbrev b_MD_newest : ByteArray := prog_8_method_28_code
def y_MD_newest : MethodName := ⟨R_MD, "newest", "(I)I"⟩
abbrev w_MD_newest : List Cond := .code y_MD_newest b_MD_newest 2 (some .int) :: G
abbrev b_MD_newestOf : ByteArray := prog_8_method_26_code
def y_MD_newestOf : MethodName := ⟨R_MD, "newestOf", "(I)I"⟩
abbrev w_MD_newestOf : List Cond := .code y_MD_newestOf b_MD_newestOf 4 (some .int) :: G
abbrev b_MD_policy : ByteArray := prog_8_method_25_code
def y_MD_policy : MethodName := ⟨R_MD, "policy", "(I)I"⟩
abbrev w_MD_policy : List Cond := .code y_MD_policy b_MD_policy 3 (some .int) :: G
abbrev b_MD_putLast : ByteArray := prog_8_method_6_code
def y_MD_putLast : MethodName := ⟨R_MD, "putLast", "(IIZ)V"⟩
abbrev w_MD_putLast : List Cond := .code y_MD_putLast b_MD_putLast 4 none :: G
abbrev b_MD_queued : ByteArray := prog_8_method_32_code
def y_MD_queued : MethodName := ⟨R_MD, "queued", "(I)I"⟩
abbrev w_MD_queued : List Cond := .code y_MD_queued b_MD_queued 2 (some .int) :: G
abbrev b_MD_request : ByteArray := prog_8_method_33_code
def y_MD_request : MethodName := ⟨R_MD, "request", "(II)I"⟩
abbrev w_MD_request : List Cond := .code y_MD_request b_MD_request 5 (some .int) :: G
abbrev b_MD_save : ByteArray := prog_8_method_21_code
def y_MD_save : MethodName := ⟨R_MD, "save", "(II)I"⟩
abbrev w_MD_save : List Cond := .code y_MD_save b_MD_save 5 (some .int) :: G
abbrev b_MD_step : ByteArray := prog_8_method_23_code
def y_MD_step : MethodName := ⟨R_MD, "step", "(I)I"⟩
abbrev w_MD_step : List Cond := .code y_MD_step b_MD_step 3 (some .int) :: G
abbrev b_MD_sync : ByteArray := prog_8_method_22_code
def y_MD_sync : MethodName := ⟨R_MD, "sync", "()I"⟩
abbrev w_MD_sync : List Cond := .code y_MD_sync b_MD_sync 4 (some .int) :: G
abbrev b_MD_thrown : ByteArray := prog_8_method_2_code
def y_MD_thrown : MethodName := ⟨R_MD, "thrown", "()I"⟩
abbrev w_MD_thrown : List Cond := .code y_MD_thrown b_MD_thrown 1 (some .int) :: G
abbrev b_MD_told : ByteArray := prog_8_method_34_code
def y_MD_told : MethodName := ⟨R_MD, "told", "(I)I"⟩
abbrev w_MD_told : List Cond := .code y_MD_told b_MD_told 2 (some .int) :: G
abbrev b_MD_track : ByteArray := prog_8_method_10_code
def y_MD_track : MethodName := ⟨R_MD, "track", "(I)I"⟩
abbrev w_MD_track : List Cond := .code y_MD_track b_MD_track 2 (some .int) :: G
abbrev b_MD_used : ByteArray := prog_8_method_31_code
def y_MD_used : MethodName := ⟨R_MD, "used", "(I)I"⟩
abbrev w_MD_used : List Cond := .code y_MD_used b_MD_used 2 (some .int) :: G
abbrev b_MD_valueAt : ByteArray := prog_8_method_17_code
def y_MD_valueAt : MethodName := ⟨R_MD, "valueAt", "(I)I"⟩
abbrev w_MD_valueAt : List Cond := .code y_MD_valueAt b_MD_valueAt 4 (some .int) :: G
abbrev b_OB_checkIndex : ByteArray := prog_27_method_17_code
def y_OB_checkIndex : MethodName := ⟨R_OB, "checkIndex", "(II)I"⟩
abbrev w_OB_checkIndex : List Cond := .code y_OB_checkIndex b_OB_checkIndex 2 (some .int) :: G
abbrev b_PR_checkIndex : ByteArray := prog_31_method_11_code
def y_PR_checkIndex : MethodName := ⟨R_PR, "checkIndex", "(IILjava/util/function/BiFunction;)I"⟩
abbrev w_PR_checkIndex : List Cond := .code y_PR_checkIndex b_PR_checkIndex 3 (some .int) :: G
abbrev b_QU_absorberOf : ByteArray := prog_5_method_8_code
def y_QU_absorberOf : MethodName := ⟨R_QU, "absorberOf", "(I)LBlockLayer$Request;"⟩
abbrev w_QU_absorberOf : List Cond := .code y_QU_absorberOf b_QU_absorberOf 4 (some (.object "BlockLayer$Request")) :: G
abbrev b_QU_add : ByteArray := prog_5_method_4_code
def y_QU_add : MethodName := ⟨R_QU, "add", "(LBlockLayer$Request;)V"⟩
abbrev w_QU_add : List Cond := .code y_QU_add b_QU_add 2 none :: G
abbrev b_QU_at : ByteArray := prog_5_method_3_code
def y_QU_at : MethodName := ⟨R_QU, "at", "(I)LBlockLayer$Request;"⟩
abbrev w_QU_at : List Cond := .code y_QU_at b_QU_at 2 (some (.object "BlockLayer$Request")) :: G
abbrev b_QU_clear : ByteArray := prog_5_method_6_code
def y_QU_clear : MethodName := ⟨R_QU, "clear", "()V"⟩
abbrev w_QU_clear : List Cond := .code y_QU_clear b_QU_clear 1 none :: G
abbrev b_QU_init : ByteArray := prog_5_method_1_code
def y_QU_init : MethodName := ⟨R_QU, "<init>", "()V"⟩
abbrev w_QU_init : List Cond := .code y_QU_init b_QU_init 1 none :: G
abbrev b_QU_isReady : ByteArray := prog_5_method_10_code
def y_QU_isReady : MethodName := ⟨R_QU, "isReady", "(I)Z"⟩
abbrev w_QU_isReady : List Cond := .code y_QU_isReady b_QU_isReady 5 (some .boolean) :: G
abbrev b_QU_lastWriteOf : ByteArray := prog_5_method_9_code
def y_QU_lastWriteOf : MethodName := ⟨R_QU, "lastWriteOf", "(I)LBlockLayer$Request;"⟩
abbrev w_QU_lastWriteOf : List Cond := .code y_QU_lastWriteOf b_QU_lastWriteOf 4 (some (.object "BlockLayer$Request")) :: G
abbrev b_QU_ofNumber : ByteArray := prog_5_method_7_code
def y_QU_ofNumber : MethodName := ⟨R_QU, "ofNumber", "(I)LBlockLayer$Request;"⟩
abbrev w_QU_ofNumber : List Cond := .code y_QU_ofNumber b_QU_ofNumber 3 (some (.object "BlockLayer$Request")) :: G
abbrev b_QU_size : ByteArray := prog_5_method_2_code
def y_QU_size : MethodName := ⟨R_QU, "size", "()I"⟩
abbrev w_QU_size : List Cond := .code y_QU_size b_QU_size 1 (some .int) :: G
abbrev b_QU_take : ByteArray := prog_5_method_5_code
def y_QU_take : MethodName := ⟨R_QU, "take", "(I)LBlockLayer$Request;"⟩
abbrev w_QU_take : List Cond := .code y_QU_take b_QU_take 2 (some (.object "BlockLayer$Request")) :: G
abbrev b_RQ_init : ByteArray := prog_6_method_1_code
def y_RQ_init : MethodName := ⟨R_RQ, "<init>", "(IIIII)V"⟩
abbrev w_RQ_init : List Cond := .code y_RQ_init b_RQ_init 6 none :: G
end
section
theorem gm0 : (.initialized "BlockLayerLaw" : Cond) ∈ G := gmk 38 (by decide +kernel) (by decide +kernel)
theorem gm1 : (.initialized "BlockLayer" : Cond) ∈ G := gmk 39 (by decide +kernel) (by decide +kernel)
theorem gm2 : (.initialized "BlockLayer$Copies" : Cond) ∈ G := gmk 40 (by decide +kernel) (by decide +kernel)
theorem gm3 : (.initialized "java/util/AbstractCollection" : Cond) ∈ G := gmk 41 (by decide +kernel) (by decide +kernel)
theorem gm4 : (.initialized "java/util/AbstractList" : Cond) ∈ G := gmk 42 (by decide +kernel) (by decide +kernel)
theorem gm5 : (.initialized "java/util/ArrayList" : Cond) ∈ G := gmk 43 (by decide +kernel) (by decide +kernel)
theorem gm6 : (.initialized "BlockLayer$Disk" : Cond) ∈ G := gmk 44 (by decide +kernel) (by decide +kernel)
theorem gm7 : (.initialized "BlockLayer$Queue" : Cond) ∈ G := gmk 45 (by decide +kernel) (by decide +kernel)
theorem gm8 : (.initialized "BlockLayerModel" : Cond) ∈ G := gmk 46 (by decide +kernel) (by decide +kernel)
theorem gm9 : (.initialized "java/lang/Throwable" : Cond) ∈ G := gmk 47 (by decide +kernel) (by decide +kernel)
theorem gm10 : (.initialized "java/lang/Exception" : Cond) ∈ G := gmk 48 (by decide +kernel) (by decide +kernel)
theorem gm11 : (.initialized "java/lang/RuntimeException" : Cond) ∈ G := gmk 49 (by decide +kernel) (by decide +kernel)
theorem gm12 : (.initialized "java/lang/IndexOutOfBoundsException" : Cond) ∈ G := gmk 50 (by decide +kernel) (by decide +kernel)
theorem gm13 : (.initialized "java/lang/UnsupportedOperationException" : Cond) ∈ G := gmk 51 (by decide +kernel) (by decide +kernel)
theorem gm14 : (.initialized "java/util/Objects" : Cond) ∈ G := gmk 52 (by decide +kernel) (by decide +kernel)
theorem gm15 : (.initialized "jdk/internal/util/Preconditions" : Cond) ∈ G := gmk 53 (by decide +kernel) (by decide +kernel)
theorem gm16 : (.initialized "java/lang/System" : Cond) ∈ G := gmk 54 (by decide +kernel) (by decide +kernel)
theorem gm17 : (.initialized "BlockLayer$Request" : Cond) ∈ G := gmk 55 (by decide +kernel) (by decide +kernel)
theorem gm18 : (.initialized "jdk/internal/util/ArraysSupport" : Cond) ∈ G := gmk 56 (by decide +kernel) (by decide +kernel)
theorem gm19 : (.initialized "java/lang/Math" : Cond) ∈ G := gmk 57 (by decide +kernel) (by decide +kernel)
theorem gm20 : (.initialized "java/util/Arrays" : Cond) ∈ G := gmk 58 (by decide +kernel) (by decide +kernel)
theorem gm21 : (.initialized "BlockLayer$Copy" : Cond) ∈ G := gmk 59 (by decide +kernel) (by decide +kernel)
theorem gm22 : (.initialized "java/lang/IllegalArgumentException" : Cond) ∈ G := gmk 60 (by decide +kernel) (by decide +kernel)
theorem gm23 : (.classLink "BlockLayerLaw" 8 "BlockLayer" : Cond) ∈ G := gmk 61 (by decide +kernel) (by decide +kernel)
theorem gm24 : (.instantiable "BlockLayer" 7 : Cond) ∈ G := gmk 62 (by decide +kernel) (by decide +kernel)
theorem gm25 : (.methodLink "BlockLayerLaw" 42 y_BL_init : Cond) ∈ G := gmk 63 (by decide +kernel) (by decide +kernel)
theorem gm26 : (.instanceMethod y_BL_init : Cond) ∈ G := gmk 64 (by decide +kernel) (by decide +kernel)
theorem gm27 : (.code y_BL_init prog_1_method_1_code 1 none : Cond) ∈ G := gmk 65 (by decide +kernel) (by decide +kernel)
theorem gm28 : (.methodLink "BlockLayer" 1 y_JO_init : Cond) ∈ G := gmk 66 (by decide +kernel) (by decide +kernel)
theorem gm29 : (.instanceMethod y_JO_init : Cond) ∈ G := gmk 67 (by decide +kernel) (by decide +kernel)
theorem gm30 : (.code y_JO_init object_method_1_code 1 none : Cond) ∈ G := gmk 68 (by decide +kernel) (by decide +kernel)
theorem gm31 : (.classLink "BlockLayer" 7 "BlockLayer$Copies" : Cond) ∈ G := gmk 69 (by decide +kernel) (by decide +kernel)
theorem gm32 : (.instantiable "BlockLayer$Copies" 1 : Cond) ∈ G := gmk 70 (by decide +kernel) (by decide +kernel)
theorem gm34 : (.instanceMethod y_CS_init : Cond) ∈ G := gmk 72 (by decide +kernel) (by decide +kernel)
theorem gm35 : (.code y_CS_init prog_2_method_1_code 1 none : Cond) ∈ G := gmk 73 (by decide +kernel) (by decide +kernel)
theorem gm36 : (.methodLink "BlockLayer$Copies" 1 y_JO_init : Cond) ∈ G := gmk 74 (by decide +kernel) (by decide +kernel)
theorem gm37 : (.classLink "BlockLayer$Copies" 7 "java/util/ArrayList" : Cond) ∈ G := gmk 75 (by decide +kernel) (by decide +kernel)
theorem gm38 : (.instantiable "java/util/ArrayList" 3 : Cond) ∈ G := gmk 76 (by decide +kernel) (by decide +kernel)
theorem gm39 : (.methodLink "BlockLayer$Copies" 9 y_AL_init : Cond) ∈ G := gmk 77 (by decide +kernel) (by decide +kernel)
theorem gm40 : (.instanceMethod y_AL_init : Cond) ∈ G := gmk 78 (by decide +kernel) (by decide +kernel)
theorem gm41 : (.code y_AL_init prog_23_method_2_code 1 none : Cond) ∈ G := gmk 79 (by decide +kernel) (by decide +kernel)
theorem gm42 : (.methodLink "java/util/ArrayList" 1 y_AB_init : Cond) ∈ G := gmk 80 (by decide +kernel) (by decide +kernel)
theorem gm43 : (.instanceMethod y_AB_init : Cond) ∈ G := gmk 81 (by decide +kernel) (by decide +kernel)
theorem gm44 : (.code y_AB_init prog_22_method_1_code 1 none : Cond) ∈ G := gmk 82 (by decide +kernel) (by decide +kernel)
theorem gm45 : (.methodLink "java/util/AbstractList" 1 y_AC_init : Cond) ∈ G := gmk 83 (by decide +kernel) (by decide +kernel)
theorem gm46 : (.instanceMethod y_AC_init : Cond) ∈ G := gmk 84 (by decide +kernel) (by decide +kernel)
theorem gm47 : (.code y_AC_init prog_21_method_1_code 1 none : Cond) ∈ G := gmk 85 (by decide +kernel) (by decide +kernel)
theorem gm48 : (.methodLink "java/util/AbstractCollection" 1 y_JO_init : Cond) ∈ G := gmk 86 (by decide +kernel) (by decide +kernel)
theorem gm49 : (.fieldLink "java/util/ArrayList" 39 "java/util/ArrayList" "DEFAULTCAPACITY_EMPTY_ELEMENTDATA" "[Ljava/lang/Object;" : Cond) ∈ G := gmk 87 (by decide +kernel) (by decide +kernel)
theorem gm51 : (.fieldLink "java/util/ArrayList" 9 "java/util/ArrayList" "elementData" "[Ljava/lang/Object;" : Cond) ∈ G := gmk 89 (by decide +kernel) (by decide +kernel)
theorem gm52 : (.fieldLink "java/util/ArrayList" 48 "java/util/ArrayList" "size" "I" : Cond) ∈ G := gmk 90 (by decide +kernel) (by decide +kernel)
theorem gm53 : (.fieldLink "java/util/AbstractList" 7 "java/util/AbstractList" "modCount" "I" : Cond) ∈ G := gmk 91 (by decide +kernel) (by decide +kernel)
theorem gm54 : (.fieldLink "java/util/ArrayList" 63 "java/util/ArrayList" "modCount" "I" : Cond) ∈ G := gmk 92 (by decide +kernel) (by decide +kernel)
theorem gm55 : (.sameField "java/util/ArrayList" "java/util/AbstractList" "modCount" "I" : Cond) ∈ G := gmk 93 (by decide +kernel) (by decide +kernel)
theorem gm56 : (.lays "java/util/ArrayList" "java/util/ArrayList" "elementData" "[Ljava/lang/Object;" : Cond) ∈ G := gmk 94 (by decide +kernel) (by decide +kernel)
theorem gm58 : (.lays "java/util/ArrayList" "java/util/ArrayList" "size" "I" : Cond) ∈ G := gmk 96 (by decide +kernel) (by decide +kernel)
theorem gm60 : (.lays "java/util/ArrayList" "java/util/AbstractList" "modCount" "I" : Cond) ∈ G := gmk 98 (by decide +kernel) (by decide +kernel)
theorem gm62 : (.superclass "java/util/ArrayList" "java/util/AbstractList" : Cond) ∈ G := gmk 100 (by decide +kernel) (by decide +kernel)
theorem gm63 : (.fieldLink "BlockLayer$Copies" 10 "BlockLayer$Copies" "inOrder" "Ljava/util/ArrayList;" : Cond) ∈ G := gmk 101 (by decide +kernel) (by decide +kernel)
theorem gm64 : (.laysFinal "BlockLayer$Copies" "BlockLayer$Copies" "inOrder" "Ljava/util/ArrayList;" : Cond) ∈ G := gmk 102 (by decide +kernel) (by decide +kernel)
theorem gm66 : (.superclass "BlockLayer$Copies" "java/lang/Object" : Cond) ∈ G := gmk 104 (by decide +kernel) (by decide +kernel)
theorem gm67 : (.classLink "BlockLayer" 16 "BlockLayer$Disk" : Cond) ∈ G := gmk 105 (by decide +kernel) (by decide +kernel)
theorem gm68 : (.instantiable "BlockLayer$Disk" 11 : Cond) ∈ G := gmk 106 (by decide +kernel) (by decide +kernel)
theorem gm70 : (.instanceMethod y_DK_init : Cond) ∈ G := gmk 108 (by decide +kernel) (by decide +kernel)
theorem gm71 : (.code y_DK_init prog_4_method_1_code 1 none : Cond) ∈ G := gmk 109 (by decide +kernel) (by decide +kernel)
theorem gm72 : (.methodLink "BlockLayer$Disk" 3 y_JO_init : Cond) ∈ G := gmk 110 (by decide +kernel) (by decide +kernel)
theorem gm73 : (.classLink "BlockLayer$Disk" 9 "BlockLayer$Queue" : Cond) ∈ G := gmk 111 (by decide +kernel) (by decide +kernel)
theorem gm74 : (.instantiable "BlockLayer$Queue" 1 : Cond) ∈ G := gmk 112 (by decide +kernel) (by decide +kernel)
theorem gm76 : (.instanceMethod y_QU_init : Cond) ∈ G := gmk 114 (by decide +kernel) (by decide +kernel)
theorem gm77 : (.code y_QU_init prog_5_method_1_code 1 none : Cond) ∈ G := gmk 115 (by decide +kernel) (by decide +kernel)
theorem gm78 : (.methodLink "BlockLayer$Queue" 3 y_JO_init : Cond) ∈ G := gmk 116 (by decide +kernel) (by decide +kernel)
theorem gm79 : (.classLink "BlockLayer$Queue" 9 "java/util/ArrayList" : Cond) ∈ G := gmk 117 (by decide +kernel) (by decide +kernel)
theorem gm80 : (.methodLink "BlockLayer$Queue" 11 y_AL_init : Cond) ∈ G := gmk 118 (by decide +kernel) (by decide +kernel)
theorem gm81 : (.fieldLink "BlockLayer$Queue" 12 "BlockLayer$Queue" "waiting" "Ljava/util/ArrayList;" : Cond) ∈ G := gmk 119 (by decide +kernel) (by decide +kernel)
theorem gm82 : (.laysFinal "BlockLayer$Queue" "BlockLayer$Queue" "waiting" "Ljava/util/ArrayList;" : Cond) ∈ G := gmk 120 (by decide +kernel) (by decide +kernel)
theorem gm84 : (.superclass "BlockLayer$Queue" "java/lang/Object" : Cond) ∈ G := gmk 122 (by decide +kernel) (by decide +kernel)
theorem gm85 : (.classLink "BlockLayer$Disk" 22 "BlockLayer$Copies" : Cond) ∈ G := gmk 123 (by decide +kernel) (by decide +kernel)
theorem gm87 : (.fieldLink "BlockLayer$Disk" 12 "BlockLayer$Disk" "queue" "LBlockLayer$Queue;" : Cond) ∈ G := gmk 125 (by decide +kernel) (by decide +kernel)
theorem gm88 : (.fieldLink "BlockLayer" 116 "BlockLayer$Disk" "queue" "LBlockLayer$Queue;" : Cond) ∈ G := gmk 126 (by decide +kernel) (by decide +kernel)
theorem gm89 : (.fieldLink "BlockLayer$Disk" 18 "BlockLayer$Disk" "onMedia" "[I" : Cond) ∈ G := gmk 127 (by decide +kernel) (by decide +kernel)
theorem gm90 : (.fieldLink "BlockLayer$Disk" 25 "BlockLayer$Disk" "cache" "LBlockLayer$Copies;" : Cond) ∈ G := gmk 128 (by decide +kernel) (by decide +kernel)
theorem gm91 : (.fieldLink "BlockLayer" 156 "BlockLayer$Disk" "cache" "LBlockLayer$Copies;" : Cond) ∈ G := gmk 129 (by decide +kernel) (by decide +kernel)
theorem gm92 : (.fieldLink "BlockLayer$Disk" 37 "BlockLayer$Disk" "serving" "LBlockLayer$Request;" : Cond) ∈ G := gmk 130 (by decide +kernel) (by decide +kernel)
theorem gm93 : (.fieldLink "BlockLayer" 151 "BlockLayer$Disk" "serving" "LBlockLayer$Request;" : Cond) ∈ G := gmk 131 (by decide +kernel) (by decide +kernel)
theorem gm94 : (.fieldLink "BlockLayer$Disk" 52 "BlockLayer$Disk" "unitsLeft" "I" : Cond) ∈ G := gmk 132 (by decide +kernel) (by decide +kernel)
theorem gm95 : (.fieldLink "BlockLayer" 94 "BlockLayer$Disk" "time" "I" : Cond) ∈ G := gmk 133 (by decide +kernel) (by decide +kernel)
theorem gm96 : (.fieldLink "BlockLayer$Disk" 82 "BlockLayer$Disk" "time" "I" : Cond) ∈ G := gmk 134 (by decide +kernel) (by decide +kernel)
theorem gm97 : (.fieldLink "BlockLayer$Disk" 72 "BlockLayer$Disk" "head" "I" : Cond) ∈ G := gmk 135 (by decide +kernel) (by decide +kernel)
theorem gm98 : (.fieldLink "BlockLayer" 148 "BlockLayer$Disk" "head" "I" : Cond) ∈ G := gmk 136 (by decide +kernel) (by decide +kernel)
theorem gm99 : (.fieldLink "BlockLayer$Disk" 29 "BlockLayer$Disk" "goesUp" "Z" : Cond) ∈ G := gmk 137 (by decide +kernel) (by decide +kernel)
theorem gm100 : (.fieldLink "BlockLayer$Disk" 33 "BlockLayer$Disk" "way" "I" : Cond) ∈ G := gmk 138 (by decide +kernel) (by decide +kernel)
theorem gm101 : (.fieldLink "BlockLayer" 103 "BlockLayer$Disk" "way" "I" : Cond) ∈ G := gmk 139 (by decide +kernel) (by decide +kernel)
theorem gm102 : (.fieldLink "BlockLayer$Disk" 112 "BlockLayer$Disk" "served" "I" : Cond) ∈ G := gmk 140 (by decide +kernel) (by decide +kernel)
theorem gm103 : (.fieldLink "BlockLayer" 165 "BlockLayer$Disk" "served" "I" : Cond) ∈ G := gmk 141 (by decide +kernel) (by decide +kernel)
theorem gm104 : (.fieldLink "BlockLayer$Disk" 85 "BlockLayer$Disk" "idleUnits" "I" : Cond) ∈ G := gmk 142 (by decide +kernel) (by decide +kernel)
theorem gm105 : (.fieldLink "BlockLayer" 168 "BlockLayer$Disk" "idleUnits" "I" : Cond) ∈ G := gmk 143 (by decide +kernel) (by decide +kernel)
theorem gm106 : (.laysFinal "BlockLayer$Disk" "BlockLayer$Disk" "queue" "LBlockLayer$Queue;" : Cond) ∈ G := gmk 144 (by decide +kernel) (by decide +kernel)
theorem gm108 : (.laysFinal "BlockLayer$Disk" "BlockLayer$Disk" "onMedia" "[I" : Cond) ∈ G := gmk 146 (by decide +kernel) (by decide +kernel)
theorem gm110 : (.laysFinal "BlockLayer$Disk" "BlockLayer$Disk" "cache" "LBlockLayer$Copies;" : Cond) ∈ G := gmk 148 (by decide +kernel) (by decide +kernel)
theorem gm112 : (.lays "BlockLayer$Disk" "BlockLayer$Disk" "serving" "LBlockLayer$Request;" : Cond) ∈ G := gmk 150 (by decide +kernel) (by decide +kernel)
theorem gm114 : (.lays "BlockLayer$Disk" "BlockLayer$Disk" "unitsLeft" "I" : Cond) ∈ G := gmk 152 (by decide +kernel) (by decide +kernel)
theorem gm116 : (.lays "BlockLayer$Disk" "BlockLayer$Disk" "time" "I" : Cond) ∈ G := gmk 154 (by decide +kernel) (by decide +kernel)
theorem gm118 : (.lays "BlockLayer$Disk" "BlockLayer$Disk" "head" "I" : Cond) ∈ G := gmk 156 (by decide +kernel) (by decide +kernel)
theorem gm120 : (.lays "BlockLayer$Disk" "BlockLayer$Disk" "goesUp" "Z" : Cond) ∈ G := gmk 158 (by decide +kernel) (by decide +kernel)
theorem gm122 : (.lays "BlockLayer$Disk" "BlockLayer$Disk" "way" "I" : Cond) ∈ G := gmk 160 (by decide +kernel) (by decide +kernel)
theorem gm124 : (.lays "BlockLayer$Disk" "BlockLayer$Disk" "served" "I" : Cond) ∈ G := gmk 162 (by decide +kernel) (by decide +kernel)
theorem gm126 : (.lays "BlockLayer$Disk" "BlockLayer$Disk" "idleUnits" "I" : Cond) ∈ G := gmk 164 (by decide +kernel) (by decide +kernel)
theorem gm128 : (.superclass "BlockLayer$Disk" "java/lang/Object" : Cond) ∈ G := gmk 166 (by decide +kernel) (by decide +kernel)
theorem gm129 : (.arrayClass FieldType.int : Cond) ∈ G := gmk 167 (by decide +kernel) (by decide +kernel)
theorem gm130 : (.fieldLink "BlockLayer" 10 "BlockLayer" "buffers" "LBlockLayer$Copies;" : Cond) ∈ G := gmk 168 (by decide +kernel) (by decide +kernel)
theorem gm131 : (.fieldLink "BlockLayer" 19 "BlockLayer" "disk" "LBlockLayer$Disk;" : Cond) ∈ G := gmk 169 (by decide +kernel) (by decide +kernel)
theorem gm132 : (.fieldLink "BlockLayer" 187 "BlockLayer" "nextNumber" "I" : Cond) ∈ G := gmk 170 (by decide +kernel) (by decide +kernel)
theorem gm133 : (.fieldLink "BlockLayer" 62 "BlockLayer" "hits" "I" : Cond) ∈ G := gmk 171 (by decide +kernel) (by decide +kernel)
theorem gm134 : (.fieldLink "BlockLayer" 34 "BlockLayer" "misses" "I" : Cond) ∈ G := gmk 172 (by decide +kernel) (by decide +kernel)
theorem gm135 : (.fieldLink "BlockLayer" 159 "BlockLayer" "evictions" "I" : Cond) ∈ G := gmk 173 (by decide +kernel) (by decide +kernel)
theorem gm136 : (.fieldLink "BlockLayer" 162 "BlockLayer" "absorbed" "I" : Cond) ∈ G := gmk 174 (by decide +kernel) (by decide +kernel)
theorem gm137 : (.laysFinal "BlockLayer" "BlockLayer" "buffers" "LBlockLayer$Copies;" : Cond) ∈ G := gmk 175 (by decide +kernel) (by decide +kernel)
theorem gm139 : (.laysFinal "BlockLayer" "BlockLayer" "disk" "LBlockLayer$Disk;" : Cond) ∈ G := gmk 177 (by decide +kernel) (by decide +kernel)
theorem gm141 : (.lays "BlockLayer" "BlockLayer" "nextNumber" "I" : Cond) ∈ G := gmk 179 (by decide +kernel) (by decide +kernel)
theorem gm143 : (.lays "BlockLayer" "BlockLayer" "hits" "I" : Cond) ∈ G := gmk 181 (by decide +kernel) (by decide +kernel)
theorem gm145 : (.lays "BlockLayer" "BlockLayer" "misses" "I" : Cond) ∈ G := gmk 183 (by decide +kernel) (by decide +kernel)
theorem gm147 : (.lays "BlockLayer" "BlockLayer" "evictions" "I" : Cond) ∈ G := gmk 185 (by decide +kernel) (by decide +kernel)
theorem gm149 : (.lays "BlockLayer" "BlockLayer" "absorbed" "I" : Cond) ∈ G := gmk 187 (by decide +kernel) (by decide +kernel)
theorem gm151 : (.superclass "BlockLayer" "java/lang/Object" : Cond) ∈ G := gmk 189 (by decide +kernel) (by decide +kernel)
theorem gm152 : (.methodLink "BlockLayerLaw" 66 y_BL_drain : Cond) ∈ G := gmk 190 (by decide +kernel) (by decide +kernel)
theorem gm153 : (.instanceMethod y_BL_drain : Cond) ∈ G := gmk 191 (by decide +kernel) (by decide +kernel)
theorem gm154 : (.selects "BlockLayer" y_BL_drain y_BL_drain : Cond) ∈ G := gmk 192 (by decide +kernel) (by decide +kernel)
theorem gm155 : (.code y_BL_drain prog_1_method_6_code 3 (some FieldType.int) : Cond) ∈ G := gmk 193 (by decide +kernel) (by decide +kernel)
theorem gm156 : (.methodLink "BlockLayer" 97 y_DK_hasWork : Cond) ∈ G := gmk 194 (by decide +kernel) (by decide +kernel)
theorem gm157 : (.instanceMethod y_DK_hasWork : Cond) ∈ G := gmk 195 (by decide +kernel) (by decide +kernel)
theorem gm158 : (.selects "BlockLayer$Disk" y_DK_hasWork y_DK_hasWork : Cond) ∈ G := gmk 196 (by decide +kernel) (by decide +kernel)
theorem gm159 : (.code y_DK_hasWork prog_4_method_2_code 1 (some FieldType.boolean) : Cond) ∈ G := gmk 197 (by decide +kernel) (by decide +kernel)
theorem gm160 : (.methodLink "BlockLayer$Disk" 41 y_QU_size : Cond) ∈ G := gmk 198 (by decide +kernel) (by decide +kernel)
theorem gm161 : (.instanceMethod y_QU_size : Cond) ∈ G := gmk 199 (by decide +kernel) (by decide +kernel)
theorem gm162 : (.selects "BlockLayer$Queue" y_QU_size y_QU_size : Cond) ∈ G := gmk 200 (by decide +kernel) (by decide +kernel)
theorem gm163 : (.code y_QU_size prog_5_method_2_code 1 (some FieldType.int) : Cond) ∈ G := gmk 201 (by decide +kernel) (by decide +kernel)
theorem gm164 : (.methodLink "BlockLayer$Queue" 18 y_AL_size : Cond) ∈ G := gmk 202 (by decide +kernel) (by decide +kernel)
theorem gm165 : (.instanceMethod y_AL_size : Cond) ∈ G := gmk 203 (by decide +kernel) (by decide +kernel)
theorem gm166 : (.selects "java/util/ArrayList" y_AL_size y_AL_size : Cond) ∈ G := gmk 204 (by decide +kernel) (by decide +kernel)
theorem gm167 : (.code y_AL_size prog_23_method_8_code 1 (some FieldType.int) : Cond) ∈ G := gmk 205 (by decide +kernel) (by decide +kernel)
theorem gm168 : (.methodLink "BlockLayer" 51 y_DK_passToNextEnd : Cond) ∈ G := gmk 206 (by decide +kernel) (by decide +kernel)
theorem gm169 : (.instanceMethod y_DK_passToNextEnd : Cond) ∈ G := gmk 207 (by decide +kernel) (by decide +kernel)
theorem gm170 : (.selects "BlockLayer$Disk" y_DK_passToNextEnd y_DK_passToNextEnd : Cond) ∈ G := gmk 208 (by decide +kernel) (by decide +kernel)
theorem gm171 : (.code y_DK_passToNextEnd prog_4_method_4_code 1 none : Cond) ∈ G := gmk 209 (by decide +kernel) (by decide +kernel)
theorem gm172 : (.methodLink "BlockLayer$Disk" 45 y_DK_beginIfIdle : Cond) ∈ G := gmk 210 (by decide +kernel) (by decide +kernel)
theorem gm174 : (.instanceMethod y_DK_beginIfIdle : Cond) ∈ G := gmk 212 (by decide +kernel) (by decide +kernel)
theorem gm175 : (.code y_DK_beginIfIdle prog_4_method_10_code 3 none : Cond) ∈ G := gmk 213 (by decide +kernel) (by decide +kernel)
theorem gm176 : (.methodLink "BlockLayer$Disk" 98 y_DK_chosenPlace : Cond) ∈ G := gmk 214 (by decide +kernel) (by decide +kernel)
theorem gm178 : (.instanceMethod y_DK_chosenPlace : Cond) ∈ G := gmk 216 (by decide +kernel) (by decide +kernel)
theorem gm179 : (.code y_DK_chosenPlace prog_4_method_13_code 3 (some FieldType.int) : Cond) ∈ G := gmk 217 (by decide +kernel) (by decide +kernel)
theorem gm180 : (.methodLink "BlockLayer$Disk" 134 y_QU_at : Cond) ∈ G := gmk 218 (by decide +kernel) (by decide +kernel)
theorem gm181 : (.instanceMethod y_QU_at : Cond) ∈ G := gmk 219 (by decide +kernel) (by decide +kernel)
theorem gm182 : (.selects "BlockLayer$Queue" y_QU_at y_QU_at : Cond) ∈ G := gmk 220 (by decide +kernel) (by decide +kernel)
theorem gm183 : (.code y_QU_at prog_5_method_3_code 2 (some (FieldType.object "BlockLayer$Request")) : Cond) ∈ G := gmk 221 (by decide +kernel) (by decide +kernel)
theorem gm184 : (.methodLink "BlockLayer$Queue" 22 y_AL_get : Cond) ∈ G := gmk 222 (by decide +kernel) (by decide +kernel)
theorem gm185 : (.instanceMethod y_AL_get : Cond) ∈ G := gmk 223 (by decide +kernel) (by decide +kernel)
theorem gm186 : (.selects "java/util/ArrayList" y_AL_get y_AL_get : Cond) ∈ G := gmk 224 (by decide +kernel) (by decide +kernel)
theorem gm187 : (.code y_AL_get prog_23_method_20_code 2 (some (FieldType.object "java/lang/Object")) : Cond) ∈ G := gmk 225 (by decide +kernel) (by decide +kernel)
theorem gm188 : (.methodLink "java/util/ArrayList" 118 y_OB_checkIndex : Cond) ∈ G := gmk 226 (by decide +kernel) (by decide +kernel)
theorem gm189 : (.static y_OB_checkIndex : Cond) ∈ G := gmk 227 (by decide +kernel) (by decide +kernel)
theorem gm190 : (.code y_OB_checkIndex prog_27_method_17_code 2 (some FieldType.int) : Cond) ∈ G := gmk 228 (by decide +kernel) (by decide +kernel)
theorem gm191 : (.methodLink "java/util/Objects" 105 y_PR_checkIndex : Cond) ∈ G := gmk 229 (by decide +kernel) (by decide +kernel)
theorem gm192 : (.static y_PR_checkIndex : Cond) ∈ G := gmk 230 (by decide +kernel) (by decide +kernel)
theorem gm193 : (.code y_PR_checkIndex prog_31_method_11_code 3 (some FieldType.int) : Cond) ∈ G := gmk 231 (by decide +kernel) (by decide +kernel)
theorem gm194 : (.methodLink "java/util/ArrayList" 123 y_AL_elementData : Cond) ∈ G := gmk 232 (by decide +kernel) (by decide +kernel)
theorem gm195 : (.instanceMethod y_AL_elementData : Cond) ∈ G := gmk 233 (by decide +kernel) (by decide +kernel)
theorem gm196 : (.selects "java/util/ArrayList" y_AL_elementData y_AL_elementData : Cond) ∈ G := gmk 234 (by decide +kernel) (by decide +kernel)
theorem gm197 : (.code y_AL_elementData prog_23_method_18_code 2 (some (FieldType.object "java/lang/Object")) : Cond) ∈ G := gmk 235 (by decide +kernel) (by decide +kernel)
theorem gm198 : (.classLink "BlockLayer$Queue" 26 "BlockLayer$Request" : Cond) ∈ G := gmk 236 (by decide +kernel) (by decide +kernel)
theorem gm199 : (.methodLink "BlockLayer$Disk" 137 y_DK_isOldUnderPolicy : Cond) ∈ G := gmk 237 (by decide +kernel) (by decide +kernel)
theorem gm201 : (.instanceMethod y_DK_isOldUnderPolicy : Cond) ∈ G := gmk 239 (by decide +kernel) (by decide +kernel)
theorem gm202 : (.code y_DK_isOldUnderPolicy prog_4_method_14_code 2 (some FieldType.boolean) : Cond) ∈ G := gmk 240 (by decide +kernel) (by decide +kernel)
theorem gm203 : (.methodLink "BlockLayer$Disk" 141 y_DK_sideOfPolicy : Cond) ∈ G := gmk 241 (by decide +kernel) (by decide +kernel)
theorem gm205 : (.instanceMethod y_DK_sideOfPolicy : Cond) ∈ G := gmk 243 (by decide +kernel) (by decide +kernel)
theorem gm206 : (.code y_DK_sideOfPolicy prog_4_method_15_code 1 (some FieldType.int) : Cond) ∈ G := gmk 244 (by decide +kernel) (by decide +kernel)
theorem gm207 : (.methodLink "BlockLayer$Disk" 144 y_DK_nearestPlace : Cond) ∈ G := gmk 245 (by decide +kernel) (by decide +kernel)
theorem gm209 : (.instanceMethod y_DK_nearestPlace : Cond) ∈ G := gmk 247 (by decide +kernel) (by decide +kernel)
theorem gm210 : (.code y_DK_nearestPlace prog_4_method_16_code 7 (some FieldType.int) : Cond) ∈ G := gmk 248 (by decide +kernel) (by decide +kernel)
theorem gm211 : (.methodLink "BlockLayer$Disk" 150 y_QU_isReady : Cond) ∈ G := gmk 249 (by decide +kernel) (by decide +kernel)
theorem gm212 : (.instanceMethod y_QU_isReady : Cond) ∈ G := gmk 250 (by decide +kernel) (by decide +kernel)
theorem gm213 : (.selects "BlockLayer$Queue" y_QU_isReady y_QU_isReady : Cond) ∈ G := gmk 251 (by decide +kernel) (by decide +kernel)
theorem gm214 : (.code y_QU_isReady prog_5_method_10_code 5 (some FieldType.boolean) : Cond) ∈ G := gmk 252 (by decide +kernel) (by decide +kernel)
theorem gm216 : (.static y_BL_trackOf : Cond) ∈ G := gmk 254 (by decide +kernel) (by decide +kernel)
theorem gm217 : (.code y_BL_trackOf prog_1_method_23_code 1 (some FieldType.int) : Cond) ∈ G := gmk 255 (by decide +kernel) (by decide +kernel)
theorem gm218 : (.methodLink "BlockLayer$Disk" 154 y_DK_tracksAway : Cond) ∈ G := gmk 256 (by decide +kernel) (by decide +kernel)
theorem gm220 : (.instanceMethod y_DK_tracksAway : Cond) ∈ G := gmk 258 (by decide +kernel) (by decide +kernel)
theorem gm221 : (.code y_DK_tracksAway prog_4_method_17_code 3 (some FieldType.int) : Cond) ∈ G := gmk 259 (by decide +kernel) (by decide +kernel)
theorem gm222 : (.methodLink "BlockLayer$Disk" 109 y_MA_abs : Cond) ∈ G := gmk 260 (by decide +kernel) (by decide +kernel)
theorem gm223 : (.static y_MA_abs : Cond) ∈ G := gmk 261 (by decide +kernel) (by decide +kernel)
theorem gm224 : (.code y_MA_abs prog_15_method_59_code 1 (some FieldType.int) : Cond) ∈ G := gmk 262 (by decide +kernel) (by decide +kernel)
theorem gm225 : (.methodLink "BlockLayer$Disk" 101 y_QU_take : Cond) ∈ G := gmk 263 (by decide +kernel) (by decide +kernel)
theorem gm226 : (.instanceMethod y_QU_take : Cond) ∈ G := gmk 264 (by decide +kernel) (by decide +kernel)
theorem gm227 : (.selects "BlockLayer$Queue" y_QU_take y_QU_take : Cond) ∈ G := gmk 265 (by decide +kernel) (by decide +kernel)
theorem gm228 : (.code y_QU_take prog_5_method_5_code 2 (some (FieldType.object "BlockLayer$Request")) : Cond) ∈ G := gmk 266 (by decide +kernel) (by decide +kernel)
theorem gm229 : (.methodLink "BlockLayer$Queue" 32 y_AL_remove : Cond) ∈ G := gmk 267 (by decide +kernel) (by decide +kernel)
theorem gm230 : (.instanceMethod y_AL_remove : Cond) ∈ G := gmk 268 (by decide +kernel) (by decide +kernel)
theorem gm231 : (.selects "java/util/ArrayList" y_AL_remove y_AL_remove : Cond) ∈ G := gmk 269 (by decide +kernel) (by decide +kernel)
theorem gm232 : (.code y_AL_remove prog_23_method_29_code 4 (some (FieldType.object "java/lang/Object")) : Cond) ∈ G := gmk 270 (by decide +kernel) (by decide +kernel)
theorem gm233 : (.methodLink "java/util/ArrayList" 144 y_AL_fastRemove : Cond) ∈ G := gmk 271 (by decide +kernel) (by decide +kernel)
theorem gm235 : (.instanceMethod y_AL_fastRemove : Cond) ∈ G := gmk 273 (by decide +kernel) (by decide +kernel)
theorem gm236 : (.code y_AL_fastRemove prog_23_method_39_code 4 none : Cond) ∈ G := gmk 274 (by decide +kernel) (by decide +kernel)
theorem gm237 : (.methodLink "java/util/ArrayList" 112 ⟨"java/lang/System", "arraycopy", "(Ljava/lang/Object;ILjava/lang/Object;II)V"⟩ : Cond) ∈ G := gmk 275 (by decide +kernel) (by decide +kernel)
theorem gm238 : (.static ⟨"java/lang/System", "arraycopy", "(Ljava/lang/Object;ILjava/lang/Object;II)V"⟩ : Cond) ∈ G := gmk 276 (by decide +kernel) (by decide +kernel)
theorem gm239 : (.native ⟨"java/lang/System", "arraycopy", "(Ljava/lang/Object;ILjava/lang/Object;II)V"⟩ : Cond) ∈ G := gmk 277 (by decide +kernel) (by decide +kernel)
theorem gm240 : (.methodLink "BlockLayer$Disk" 105 y_CS_size : Cond) ∈ G := gmk 278 (by decide +kernel) (by decide +kernel)
theorem gm241 : (.instanceMethod y_CS_size : Cond) ∈ G := gmk 279 (by decide +kernel) (by decide +kernel)
theorem gm242 : (.selects "BlockLayer$Copies" y_CS_size y_CS_size : Cond) ∈ G := gmk 280 (by decide +kernel) (by decide +kernel)
theorem gm243 : (.code y_CS_size prog_2_method_2_code 1 (some FieldType.int) : Cond) ∈ G := gmk 281 (by decide +kernel) (by decide +kernel)
theorem gm244 : (.methodLink "BlockLayer$Copies" 16 y_AL_size : Cond) ∈ G := gmk 282 (by decide +kernel) (by decide +kernel)
theorem gm245 : (.methodLink "BlockLayer$Disk" 48 y_DK_passUntilEnd : Cond) ∈ G := gmk 283 (by decide +kernel) (by decide +kernel)
theorem gm247 : (.instanceMethod y_DK_passUntilEnd : Cond) ∈ G := gmk 285 (by decide +kernel) (by decide +kernel)
theorem gm248 : (.code y_DK_passUntilEnd prog_4_method_9_code 3 (some FieldType.int) : Cond) ∈ G := gmk 286 (by decide +kernel) (by decide +kernel)
theorem gm249 : (.methodLink "BlockLayer$Disk" 88 y_MA_min : Cond) ∈ G := gmk 287 (by decide +kernel) (by decide +kernel)
theorem gm250 : (.static y_MA_min : Cond) ∈ G := gmk 288 (by decide +kernel) (by decide +kernel)
theorem gm251 : (.code y_MA_min prog_15_method_69_code 2 (some FieldType.int) : Cond) ∈ G := gmk 289 (by decide +kernel) (by decide +kernel)
theorem gm252 : (.methodLink "BlockLayer$Disk" 94 y_DK_end : Cond) ∈ G := gmk 290 (by decide +kernel) (by decide +kernel)
theorem gm254 : (.instanceMethod y_DK_end : Cond) ∈ G := gmk 292 (by decide +kernel) (by decide +kernel)
theorem gm255 : (.code y_DK_end prog_4_method_11_code 2 none : Cond) ∈ G := gmk 293 (by decide +kernel) (by decide +kernel)
theorem gm256 : (.methodLink "BlockLayer$Disk" 66 y_DK_valueInside : Cond) ∈ G := gmk 294 (by decide +kernel) (by decide +kernel)
theorem gm258 : (.instanceMethod y_DK_valueInside : Cond) ∈ G := gmk 296 (by decide +kernel) (by decide +kernel)
theorem gm259 : (.code y_DK_valueInside prog_4_method_8_code 3 (some FieldType.int) : Cond) ∈ G := gmk 297 (by decide +kernel) (by decide +kernel)
theorem gm260 : (.methodLink "BlockLayer$Disk" 75 y_CS_copyOf : Cond) ∈ G := gmk 298 (by decide +kernel) (by decide +kernel)
theorem gm261 : (.instanceMethod y_CS_copyOf : Cond) ∈ G := gmk 299 (by decide +kernel) (by decide +kernel)
theorem gm262 : (.selects "BlockLayer$Copies" y_CS_copyOf y_CS_copyOf : Cond) ∈ G := gmk 300 (by decide +kernel) (by decide +kernel)
theorem gm263 : (.code y_CS_copyOf prog_2_method_4_code 3 (some (FieldType.object "BlockLayer$Copy")) : Cond) ∈ G := gmk 301 (by decide +kernel) (by decide +kernel)
theorem gm264 : (.methodLink "BlockLayer$Copies" 20 y_AL_get : Cond) ∈ G := gmk 302 (by decide +kernel) (by decide +kernel)
theorem gm265 : (.classLink "BlockLayer$Copies" 24 "BlockLayer$Copy" : Cond) ∈ G := gmk 303 (by decide +kernel) (by decide +kernel)
theorem gm266 : (.classLink "BlockLayer$Disk" 80 "BlockLayer$Copy" : Cond) ∈ G := gmk 304 (by decide +kernel) (by decide +kernel)
theorem gm267 : (.instantiable "BlockLayer$Copy" 3 : Cond) ∈ G := gmk 305 (by decide +kernel) (by decide +kernel)
theorem gm268 : (.methodLink "BlockLayer$Disk" 118 y_CP_init : Cond) ∈ G := gmk 306 (by decide +kernel) (by decide +kernel)
theorem gm269 : (.instanceMethod y_CP_init : Cond) ∈ G := gmk 307 (by decide +kernel) (by decide +kernel)
theorem gm270 : (.code y_CP_init prog_3_method_1_code 3 none : Cond) ∈ G := gmk 308 (by decide +kernel) (by decide +kernel)
theorem gm271 : (.methodLink "BlockLayer$Copy" 1 y_JO_init : Cond) ∈ G := gmk 309 (by decide +kernel) (by decide +kernel)
theorem gm272 : (.fieldLink "BlockLayer$Copy" 7 "BlockLayer$Copy" "block" "I" : Cond) ∈ G := gmk 310 (by decide +kernel) (by decide +kernel)
theorem gm273 : (.fieldLink "BlockLayer$Copies" 26 "BlockLayer$Copy" "block" "I" : Cond) ∈ G := gmk 311 (by decide +kernel) (by decide +kernel)
theorem gm274 : (.fieldLink "BlockLayer" 129 "BlockLayer$Copy" "block" "I" : Cond) ∈ G := gmk 312 (by decide +kernel) (by decide +kernel)
theorem gm275 : (.fieldLink "BlockLayer$Disk" 133 "BlockLayer$Copy" "block" "I" : Cond) ∈ G := gmk 313 (by decide +kernel) (by decide +kernel)
theorem gm276 : (.fieldLink "BlockLayer$Copy" 13 "BlockLayer$Copy" "value" "I" : Cond) ∈ G := gmk 314 (by decide +kernel) (by decide +kernel)
theorem gm277 : (.fieldLink "BlockLayer" 69 "BlockLayer$Copy" "value" "I" : Cond) ∈ G := gmk 315 (by decide +kernel) (by decide +kernel)
theorem gm278 : (.fieldLink "BlockLayer$Disk" 79 "BlockLayer$Copy" "value" "I" : Cond) ∈ G := gmk 316 (by decide +kernel) (by decide +kernel)
theorem gm279 : (.fieldLink "BlockLayer" 70 "BlockLayer$Copy" "dirty" "Z" : Cond) ∈ G := gmk 317 (by decide +kernel) (by decide +kernel)
theorem gm280 : (.fieldLink "BlockLayer$Copies" 41 "BlockLayer$Copy" "dirty" "Z" : Cond) ∈ G := gmk 318 (by decide +kernel) (by decide +kernel)
theorem gm281 : (.laysFinal "BlockLayer$Copy" "BlockLayer$Copy" "block" "I" : Cond) ∈ G := gmk 319 (by decide +kernel) (by decide +kernel)
theorem gm283 : (.lays "BlockLayer$Copy" "BlockLayer$Copy" "value" "I" : Cond) ∈ G := gmk 321 (by decide +kernel) (by decide +kernel)
theorem gm285 : (.lays "BlockLayer$Copy" "BlockLayer$Copy" "dirty" "Z" : Cond) ∈ G := gmk 323 (by decide +kernel) (by decide +kernel)
theorem gm287 : (.superclass "BlockLayer$Copy" "java/lang/Object" : Cond) ∈ G := gmk 325 (by decide +kernel) (by decide +kernel)
theorem gm288 : (.methodLink "BlockLayer$Disk" 121 y_CS_putLast : Cond) ∈ G := gmk 326 (by decide +kernel) (by decide +kernel)
theorem gm289 : (.instanceMethod y_CS_putLast : Cond) ∈ G := gmk 327 (by decide +kernel) (by decide +kernel)
theorem gm290 : (.selects "BlockLayer$Copies" y_CS_putLast y_CS_putLast : Cond) ∈ G := gmk 328 (by decide +kernel) (by decide +kernel)
theorem gm291 : (.code y_CS_putLast prog_2_method_5_code 3 none : Cond) ∈ G := gmk 329 (by decide +kernel) (by decide +kernel)
theorem gm292 : (.methodLink "BlockLayer$Copies" 30 y_AL_remove : Cond) ∈ G := gmk 330 (by decide +kernel) (by decide +kernel)
theorem gm293 : (.methodLink "BlockLayer$Copies" 33 y_AL_add0 : Cond) ∈ G := gmk 331 (by decide +kernel) (by decide +kernel)
theorem gm294 : (.instanceMethod y_AL_add0 : Cond) ∈ G := gmk 332 (by decide +kernel) (by decide +kernel)
theorem gm295 : (.selects "java/util/ArrayList" y_AL_add0 y_AL_add0 : Cond) ∈ G := gmk 333 (by decide +kernel) (by decide +kernel)
theorem gm296 : (.code y_AL_add0 prog_23_method_25_code 2 (some FieldType.boolean) : Cond) ∈ G := gmk 334 (by decide +kernel) (by decide +kernel)
theorem gm297 : (.methodLink "java/util/ArrayList" 131 y_AL_add1 : Cond) ∈ G := gmk 335 (by decide +kernel) (by decide +kernel)
theorem gm299 : (.instanceMethod y_AL_add1 : Cond) ∈ G := gmk 337 (by decide +kernel) (by decide +kernel)
theorem gm300 : (.code y_AL_add1 prog_23_method_24_code 4 none : Cond) ∈ G := gmk 338 (by decide +kernel) (by decide +kernel)
theorem gm301 : (.methodLink "java/util/ArrayList" 129 y_AL_grow0 : Cond) ∈ G := gmk 339 (by decide +kernel) (by decide +kernel)
theorem gm303 : (.instanceMethod y_AL_grow0 : Cond) ∈ G := gmk 341 (by decide +kernel) (by decide +kernel)
theorem gm304 : (.code y_AL_grow0 prog_23_method_7_code 1 (some (FieldType.array (FieldType.object "java/lang/Object"))) : Cond) ∈ G := gmk 342 (by decide +kernel) (by decide +kernel)
theorem gm305 : (.methodLink "java/util/ArrayList" 69 y_AL_grow1 : Cond) ∈ G := gmk 343 (by decide +kernel) (by decide +kernel)
theorem gm307 : (.instanceMethod y_AL_grow1 : Cond) ∈ G := gmk 345 (by decide +kernel) (by decide +kernel)
theorem gm308 : (.code y_AL_grow1 prog_23_method_6_code 4 (some (FieldType.array (FieldType.object "java/lang/Object"))) : Cond) ∈ G := gmk 346 (by decide +kernel) (by decide +kernel)
theorem gm309 : (.methodLink "java/util/ArrayList" 73 y_AS_newLength : Cond) ∈ G := gmk 347 (by decide +kernel) (by decide +kernel)
theorem gm310 : (.static y_AS_newLength : Cond) ∈ G := gmk 348 (by decide +kernel) (by decide +kernel)
theorem gm311 : (.code y_AS_newLength prog_30_method_27_code 4 (some FieldType.int) : Cond) ∈ G := gmk 349 (by decide +kernel) (by decide +kernel)
theorem gm312 : (.methodLink "jdk/internal/util/ArraysSupport" 194 y_MA_max : Cond) ∈ G := gmk 350 (by decide +kernel) (by decide +kernel)
theorem gm313 : (.static y_MA_max : Cond) ∈ G := gmk 351 (by decide +kernel) (by decide +kernel)
theorem gm314 : (.code y_MA_max prog_15_method_65_code 2 (some FieldType.int) : Cond) ∈ G := gmk 352 (by decide +kernel) (by decide +kernel)
theorem gm315 : (.constant "jdk/internal/util/ArraysSupport" 200 2147483639 : Cond) ∈ G := gmk 353 (by decide +kernel) (by decide +kernel)
theorem gm316 : (.methodLink "jdk/internal/util/ArraysSupport" 201 y_AS_hugeLength : Cond) ∈ G := gmk 354 (by decide +kernel) (by decide +kernel)
theorem gm317 : (.static y_AS_hugeLength : Cond) ∈ G := gmk 355 (by decide +kernel) (by decide +kernel)
theorem gm318 : (.code y_AS_hugeLength prog_30_method_28_code 3 (some FieldType.int) : Cond) ∈ G := gmk 356 (by decide +kernel) (by decide +kernel)
theorem gm319 : (.methodLink "java/util/ArrayList" 66 y_AR_copyOf0 : Cond) ∈ G := gmk 357 (by decide +kernel) (by decide +kernel)
theorem gm320 : (.static y_AR_copyOf0 : Cond) ∈ G := gmk 358 (by decide +kernel) (by decide +kernel)
theorem gm321 : (.code y_AR_copyOf0 prog_24_method_119_code 2 (some (FieldType.array (FieldType.object "java/lang/Object"))) : Cond) ∈ G := gmk 359 (by decide +kernel) (by decide +kernel)
theorem gm322 : (.methodLink "java/util/Arrays" 86 ⟨"java/lang/Object", "getClass", "()Ljava/lang/Class;"⟩ : Cond) ∈ G := gmk 360 (by decide +kernel) (by decide +kernel)
theorem gm323 : (.instanceMethod ⟨"java/lang/Object", "getClass", "()Ljava/lang/Class;"⟩ : Cond) ∈ G := gmk 361 (by decide +kernel) (by decide +kernel)
theorem gm324 : (.sameMethod "java/lang/Object" "java/lang/Object" "getClass" "()Ljava/lang/Class;" : Cond) ∈ G := gmk 362 (by decide +kernel) (by decide +kernel)
theorem gm325 : (.selects "BlockLayer" ⟨"java/lang/Object", "getClass", "()Ljava/lang/Class;"⟩ ⟨"java/lang/Object", "getClass", "()Ljava/lang/Class;"⟩ : Cond) ∈ G := gmk 363 (by decide +kernel) (by decide +kernel)
theorem gm326 : (.selects "BlockLayer$Copies" ⟨"java/lang/Object", "getClass", "()Ljava/lang/Class;"⟩ ⟨"java/lang/Object", "getClass", "()Ljava/lang/Class;"⟩ : Cond) ∈ G := gmk 364 (by decide +kernel) (by decide +kernel)
theorem gm327 : (.selects "BlockLayer$Copy" ⟨"java/lang/Object", "getClass", "()Ljava/lang/Class;"⟩ ⟨"java/lang/Object", "getClass", "()Ljava/lang/Class;"⟩ : Cond) ∈ G := gmk 365 (by decide +kernel) (by decide +kernel)
theorem gm328 : (.selects "BlockLayer$Disk" ⟨"java/lang/Object", "getClass", "()Ljava/lang/Class;"⟩ ⟨"java/lang/Object", "getClass", "()Ljava/lang/Class;"⟩ : Cond) ∈ G := gmk 366 (by decide +kernel) (by decide +kernel)
theorem gm329 : (.selects "BlockLayer$Queue" ⟨"java/lang/Object", "getClass", "()Ljava/lang/Class;"⟩ ⟨"java/lang/Object", "getClass", "()Ljava/lang/Class;"⟩ : Cond) ∈ G := gmk 367 (by decide +kernel) (by decide +kernel)
theorem gm330 : (.selects "BlockLayer$Request" ⟨"java/lang/Object", "getClass", "()Ljava/lang/Class;"⟩ ⟨"java/lang/Object", "getClass", "()Ljava/lang/Class;"⟩ : Cond) ∈ G := gmk 368 (by decide +kernel) (by decide +kernel)
theorem gm331 : (.selects "BlockLayerModel" ⟨"java/lang/Object", "getClass", "()Ljava/lang/Class;"⟩ ⟨"java/lang/Object", "getClass", "()Ljava/lang/Class;"⟩ : Cond) ∈ G := gmk 369 (by decide +kernel) (by decide +kernel)
theorem gm332 : (.selects "java/lang/IllegalArgumentException" ⟨"java/lang/Object", "getClass", "()Ljava/lang/Class;"⟩ ⟨"java/lang/Object", "getClass", "()Ljava/lang/Class;"⟩ : Cond) ∈ G := gmk 370 (by decide +kernel) (by decide +kernel)
theorem gm333 : (.selects "java/lang/IndexOutOfBoundsException" ⟨"java/lang/Object", "getClass", "()Ljava/lang/Class;"⟩ ⟨"java/lang/Object", "getClass", "()Ljava/lang/Class;"⟩ : Cond) ∈ G := gmk 371 (by decide +kernel) (by decide +kernel)
theorem gm334 : (.selects "java/lang/UnsupportedOperationException" ⟨"java/lang/Object", "getClass", "()Ljava/lang/Class;"⟩ ⟨"java/lang/Object", "getClass", "()Ljava/lang/Class;"⟩ : Cond) ∈ G := gmk 372 (by decide +kernel) (by decide +kernel)
theorem gm335 : (.selects "java/util/ArrayList" ⟨"java/lang/Object", "getClass", "()Ljava/lang/Class;"⟩ ⟨"java/lang/Object", "getClass", "()Ljava/lang/Class;"⟩ : Cond) ∈ G := gmk 373 (by decide +kernel) (by decide +kernel)
theorem gm336 : (.native ⟨"java/lang/Object", "getClass", "()Ljava/lang/Class;"⟩ : Cond) ∈ G := gmk 374 (by decide +kernel) (by decide +kernel)
theorem gm337 : (.methodLink "java/util/Arrays" 300 y_AR_copyOf1 : Cond) ∈ G := gmk 375 (by decide +kernel) (by decide +kernel)
theorem gm338 : (.static y_AR_copyOf1 : Cond) ∈ G := gmk 376 (by decide +kernel) (by decide +kernel)
theorem gm339 : (.code y_AR_copyOf1 prog_24_method_120_code 4 (some (FieldType.array (FieldType.object "java/lang/Object"))) : Cond) ∈ G := gmk 377 (by decide +kernel) (by decide +kernel)
theorem gm340 : (.classLink "java/util/Arrays" 110 "[Ljava/lang/Object;" : Cond) ∈ G := gmk 378 (by decide +kernel) (by decide +kernel)
theorem gm342 : (.classLink "java/util/Arrays" 2 "java/lang/Object" : Cond) ∈ G := gmk 380 (by decide +kernel) (by decide +kernel)
theorem gm343 : (.methodLink "java/util/Arrays" 304 y_MA_min : Cond) ∈ G := gmk 381 (by decide +kernel) (by decide +kernel)
theorem gm344 : (.methodLink "java/util/Arrays" 150 ⟨"java/lang/System", "arraycopy", "(Ljava/lang/Object;ILjava/lang/Object;II)V"⟩ : Cond) ∈ G := gmk 382 (by decide +kernel) (by decide +kernel)
theorem gm345 : (.methodLink "java/util/ArrayList" 79 y_MA_max : Cond) ∈ G := gmk 383 (by decide +kernel) (by decide +kernel)
theorem gm346 : (.classLink "java/util/ArrayList" 7 "java/lang/Object" : Cond) ∈ G := gmk 384 (by decide +kernel) (by decide +kernel)
theorem gm347 : (.methodLink "BlockLayer$Disk" 125 y_DK_moveToMedia : Cond) ∈ G := gmk 385 (by decide +kernel) (by decide +kernel)
theorem gm349 : (.instanceMethod y_DK_moveToMedia : Cond) ∈ G := gmk 387 (by decide +kernel) (by decide +kernel)
theorem gm350 : (.code y_DK_moveToMedia prog_4_method_12_code 4 none : Cond) ∈ G := gmk 388 (by decide +kernel) (by decide +kernel)
theorem gm351 : (.methodLink "BlockLayer$Disk" 129 y_CS_takeFirst : Cond) ∈ G := gmk 389 (by decide +kernel) (by decide +kernel)
theorem gm352 : (.instanceMethod y_CS_takeFirst : Cond) ∈ G := gmk 390 (by decide +kernel) (by decide +kernel)
theorem gm353 : (.selects "BlockLayer$Copies" y_CS_takeFirst y_CS_takeFirst : Cond) ∈ G := gmk 391 (by decide +kernel) (by decide +kernel)
theorem gm354 : (.code y_CS_takeFirst prog_2_method_6_code 1 (some (FieldType.object "BlockLayer$Copy")) : Cond) ∈ G := gmk 392 (by decide +kernel) (by decide +kernel)
theorem gm355 : (.methodLink "BlockLayer$Copies" 37 y_AL_isEmpty : Cond) ∈ G := gmk 393 (by decide +kernel) (by decide +kernel)
theorem gm356 : (.instanceMethod y_AL_isEmpty : Cond) ∈ G := gmk 394 (by decide +kernel) (by decide +kernel)
theorem gm357 : (.selects "java/util/ArrayList" y_AL_isEmpty y_AL_isEmpty : Cond) ∈ G := gmk 395 (by decide +kernel) (by decide +kernel)
theorem gm358 : (.code y_AL_isEmpty prog_23_method_9_code 1 (some FieldType.boolean) : Cond) ∈ G := gmk 396 (by decide +kernel) (by decide +kernel)
theorem gm359 : (.methodLink "BlockLayerLaw" 73 y_BL_crash : Cond) ∈ G := gmk 397 (by decide +kernel) (by decide +kernel)
theorem gm360 : (.instanceMethod y_BL_crash : Cond) ∈ G := gmk 398 (by decide +kernel) (by decide +kernel)
theorem gm361 : (.selects "BlockLayer" y_BL_crash y_BL_crash : Cond) ∈ G := gmk 399 (by decide +kernel) (by decide +kernel)
theorem gm362 : (.code y_BL_crash prog_1_method_8_code 3 (some FieldType.int) : Cond) ∈ G := gmk 400 (by decide +kernel) (by decide +kernel)
theorem gm363 : (.methodLink "BlockLayer" 106 y_BL_newestOf : Cond) ∈ G := gmk 401 (by decide +kernel) (by decide +kernel)
theorem gm365 : (.instanceMethod y_BL_newestOf : Cond) ∈ G := gmk 403 (by decide +kernel) (by decide +kernel)
theorem gm366 : (.code y_BL_newestOf prog_1_method_22_code 4 (some FieldType.int) : Cond) ∈ G := gmk 404 (by decide +kernel) (by decide +kernel)
theorem gm367 : (.methodLink "BlockLayer" 30 y_CS_copyOf : Cond) ∈ G := gmk 405 (by decide +kernel) (by decide +kernel)
theorem gm368 : (.methodLink "BlockLayer" 200 y_QU_lastWriteOf : Cond) ∈ G := gmk 406 (by decide +kernel) (by decide +kernel)
theorem gm369 : (.instanceMethod y_QU_lastWriteOf : Cond) ∈ G := gmk 407 (by decide +kernel) (by decide +kernel)
theorem gm370 : (.selects "BlockLayer$Queue" y_QU_lastWriteOf y_QU_lastWriteOf : Cond) ∈ G := gmk 408 (by decide +kernel) (by decide +kernel)
theorem gm371 : (.code y_QU_lastWriteOf prog_5_method_9_code 4 (some (FieldType.object "BlockLayer$Request")) : Cond) ∈ G := gmk 409 (by decide +kernel) (by decide +kernel)
theorem gm372 : (.methodLink "BlockLayer" 203 y_DK_valueAfterServing : Cond) ∈ G := gmk 410 (by decide +kernel) (by decide +kernel)
theorem gm373 : (.instanceMethod y_DK_valueAfterServing : Cond) ∈ G := gmk 411 (by decide +kernel) (by decide +kernel)
theorem gm374 : (.selects "BlockLayer$Disk" y_DK_valueAfterServing y_DK_valueAfterServing : Cond) ∈ G := gmk 412 (by decide +kernel) (by decide +kernel)
theorem gm375 : (.code y_DK_valueAfterServing prog_4_method_6_code 2 (some FieldType.int) : Cond) ∈ G := gmk 413 (by decide +kernel) (by decide +kernel)
theorem gm376 : (.methodLink "BlockLayer" 110 y_DK_valueOnMedia : Cond) ∈ G := gmk 414 (by decide +kernel) (by decide +kernel)
theorem gm377 : (.instanceMethod y_DK_valueOnMedia : Cond) ∈ G := gmk 415 (by decide +kernel) (by decide +kernel)
theorem gm378 : (.selects "BlockLayer$Disk" y_DK_valueOnMedia y_DK_valueOnMedia : Cond) ∈ G := gmk 416 (by decide +kernel) (by decide +kernel)
theorem gm379 : (.code y_DK_valueOnMedia prog_4_method_5_code 2 (some FieldType.int) : Cond) ∈ G := gmk 417 (by decide +kernel) (by decide +kernel)
theorem gm380 : (.methodLink "BlockLayer" 113 y_CS_clear : Cond) ∈ G := gmk 418 (by decide +kernel) (by decide +kernel)
theorem gm381 : (.instanceMethod y_CS_clear : Cond) ∈ G := gmk 419 (by decide +kernel) (by decide +kernel)
theorem gm382 : (.selects "BlockLayer$Copies" y_CS_clear y_CS_clear : Cond) ∈ G := gmk 420 (by decide +kernel) (by decide +kernel)
theorem gm383 : (.code y_CS_clear prog_2_method_8_code 1 none : Cond) ∈ G := gmk 421 (by decide +kernel) (by decide +kernel)
theorem gm384 : (.methodLink "BlockLayer$Copies" 45 y_AL_clear : Cond) ∈ G := gmk 422 (by decide +kernel) (by decide +kernel)
theorem gm385 : (.instanceMethod y_AL_clear : Cond) ∈ G := gmk 423 (by decide +kernel) (by decide +kernel)
theorem gm386 : (.selects "java/util/ArrayList" y_AL_clear y_AL_clear : Cond) ∈ G := gmk 424 (by decide +kernel) (by decide +kernel)
theorem gm387 : (.code y_AL_clear prog_23_method_40_code 4 none : Cond) ∈ G := gmk 425 (by decide +kernel) (by decide +kernel)
theorem gm388 : (.methodLink "BlockLayer" 120 y_QU_clear : Cond) ∈ G := gmk 426 (by decide +kernel) (by decide +kernel)
theorem gm389 : (.instanceMethod y_QU_clear : Cond) ∈ G := gmk 427 (by decide +kernel) (by decide +kernel)
theorem gm390 : (.selects "BlockLayer$Queue" y_QU_clear y_QU_clear : Cond) ∈ G := gmk 428 (by decide +kernel) (by decide +kernel)
theorem gm391 : (.code y_QU_clear prog_5_method_6_code 1 none : Cond) ∈ G := gmk 429 (by decide +kernel) (by decide +kernel)
theorem gm392 : (.methodLink "BlockLayer$Queue" 35 y_AL_clear : Cond) ∈ G := gmk 430 (by decide +kernel) (by decide +kernel)
theorem gm393 : (.methodLink "BlockLayer" 123 y_DK_loseAllButMedia : Cond) ∈ G := gmk 431 (by decide +kernel) (by decide +kernel)
theorem gm394 : (.instanceMethod y_DK_loseAllButMedia : Cond) ∈ G := gmk 432 (by decide +kernel) (by decide +kernel)
theorem gm395 : (.selects "BlockLayer$Disk" y_DK_loseAllButMedia y_DK_loseAllButMedia : Cond) ∈ G := gmk 433 (by decide +kernel) (by decide +kernel)
theorem gm396 : (.code y_DK_loseAllButMedia prog_4_method_7_code 1 none : Cond) ∈ G := gmk 434 (by decide +kernel) (by decide +kernel)
theorem gm397 : (.methodLink "BlockLayer$Disk" 69 y_CS_clear : Cond) ∈ G := gmk 435 (by decide +kernel) (by decide +kernel)
theorem gm398 : (.methodLink "BlockLayerLaw" 86 y_BL_used : Cond) ∈ G := gmk 436 (by decide +kernel) (by decide +kernel)
theorem gm399 : (.instanceMethod y_BL_used : Cond) ∈ G := gmk 437 (by decide +kernel) (by decide +kernel)
theorem gm400 : (.selects "BlockLayer" y_BL_used y_BL_used : Cond) ∈ G := gmk 438 (by decide +kernel) (by decide +kernel)
theorem gm401 : (.code y_BL_used prog_1_method_12_code 3 (some FieldType.int) : Cond) ∈ G := gmk 439 (by decide +kernel) (by decide +kernel)
theorem gm402 : (.methodLink "BlockLayer" 126 y_CS_at : Cond) ∈ G := gmk 440 (by decide +kernel) (by decide +kernel)
theorem gm403 : (.instanceMethod y_CS_at : Cond) ∈ G := gmk 441 (by decide +kernel) (by decide +kernel)
theorem gm404 : (.selects "BlockLayer$Copies" y_CS_at y_CS_at : Cond) ∈ G := gmk 442 (by decide +kernel) (by decide +kernel)
theorem gm405 : (.code y_CS_at prog_2_method_3_code 2 (some (FieldType.object "BlockLayer$Copy")) : Cond) ∈ G := gmk 443 (by decide +kernel) (by decide +kernel)
theorem gm406 : (.methodLink "BlockLayerLaw" 90 y_BL_queued : Cond) ∈ G := gmk 444 (by decide +kernel) (by decide +kernel)
theorem gm407 : (.instanceMethod y_BL_queued : Cond) ∈ G := gmk 445 (by decide +kernel) (by decide +kernel)
theorem gm408 : (.selects "BlockLayer" y_BL_queued y_BL_queued : Cond) ∈ G := gmk 446 (by decide +kernel) (by decide +kernel)
theorem gm409 : (.code y_BL_queued prog_1_method_13_code 3 (some FieldType.int) : Cond) ∈ G := gmk 447 (by decide +kernel) (by decide +kernel)
theorem gm410 : (.methodLink "BlockLayer" 132 y_QU_at : Cond) ∈ G := gmk 448 (by decide +kernel) (by decide +kernel)
theorem gm411 : (.methodLink "BlockLayerLaw" 94 y_BL_request : Cond) ∈ G := gmk 449 (by decide +kernel) (by decide +kernel)
theorem gm412 : (.instanceMethod y_BL_request : Cond) ∈ G := gmk 450 (by decide +kernel) (by decide +kernel)
theorem gm413 : (.selects "BlockLayer" y_BL_request y_BL_request : Cond) ∈ G := gmk 451 (by decide +kernel) (by decide +kernel)
theorem gm414 : (.code y_BL_request prog_1_method_14_code 4 (some FieldType.int) : Cond) ∈ G := gmk 452 (by decide +kernel) (by decide +kernel)
theorem gm415 : (.methodLink "BlockLayer" 138 y_BL_liveRequest : Cond) ∈ G := gmk 453 (by decide +kernel) (by decide +kernel)
theorem gm417 : (.instanceMethod y_BL_liveRequest : Cond) ∈ G := gmk 455 (by decide +kernel) (by decide +kernel)
theorem gm418 : (.code y_BL_liveRequest prog_1_method_21_code 3 (some (FieldType.object "BlockLayer$Request")) : Cond) ∈ G := gmk 456 (by decide +kernel) (by decide +kernel)
theorem gm419 : (.methodLink "BlockLayer" 197 y_QU_ofNumber : Cond) ∈ G := gmk 457 (by decide +kernel) (by decide +kernel)
theorem gm420 : (.instanceMethod y_QU_ofNumber : Cond) ∈ G := gmk 458 (by decide +kernel) (by decide +kernel)
theorem gm421 : (.selects "BlockLayer$Queue" y_QU_ofNumber y_QU_ofNumber : Cond) ∈ G := gmk 459 (by decide +kernel) (by decide +kernel)
theorem gm422 : (.code y_QU_ofNumber prog_5_method_7_code 3 (some (FieldType.object "BlockLayer$Request")) : Cond) ∈ G := gmk 460 (by decide +kernel) (by decide +kernel)
theorem gm423 : (.methodLink "BlockLayerLaw" 98 y_BL_told : Cond) ∈ G := gmk 461 (by decide +kernel) (by decide +kernel)
theorem gm424 : (.instanceMethod y_BL_told : Cond) ∈ G := gmk 462 (by decide +kernel) (by decide +kernel)
theorem gm425 : (.selects "BlockLayer" y_BL_told y_BL_told : Cond) ∈ G := gmk 463 (by decide +kernel) (by decide +kernel)
theorem gm426 : (.code y_BL_told prog_1_method_15_code 2 (some FieldType.int) : Cond) ∈ G := gmk 464 (by decide +kernel) (by decide +kernel)
theorem gm427 : (.methodLink "BlockLayer" 155 y_QU_size : Cond) ∈ G := gmk 465 (by decide +kernel) (by decide +kernel)
theorem gm428 : (.methodLink "BlockLayer" 73 y_CS_size : Cond) ∈ G := gmk 466 (by decide +kernel) (by decide +kernel)
theorem gm429 : (.methodLink "BlockLayerLaw" 46 y_LW_load : Cond) ∈ G := gmk 467 (by decide +kernel) (by decide +kernel)
theorem gm430 : (.static y_LW_load : Cond) ∈ G := gmk 468 (by decide +kernel) (by decide +kernel)
theorem gm431 : (.codeWith y_LW_load method_3_code 4 (some FieldType.int) [(0, 9, 12, 13), (0, 9, 15, 15)] : Cond) ∈ G := gmk 469 (by decide +kernel) (by decide +kernel)
theorem gm432 : (.classLink "BlockLayerLaw" 13 "java/lang/IndexOutOfBoundsException" : Cond) ∈ G := gmk 470 (by decide +kernel) (by decide +kernel)
theorem gm433 : (.classLink "BlockLayerLaw" 15 "java/lang/UnsupportedOperationException" : Cond) ∈ G := gmk 471 (by decide +kernel) (by decide +kernel)
theorem gm434 : (.methodLink "BlockLayerLaw" 7 y_BL_load : Cond) ∈ G := gmk 472 (by decide +kernel) (by decide +kernel)
theorem gm435 : (.instanceMethod y_BL_load : Cond) ∈ G := gmk 473 (by decide +kernel) (by decide +kernel)
theorem gm436 : (.selects "BlockLayer" y_BL_load y_BL_load : Cond) ∈ G := gmk 474 (by decide +kernel) (by decide +kernel)
theorem gm437 : (.code y_BL_load prog_1_method_2_code 5 (some FieldType.int) : Cond) ∈ G := gmk 475 (by decide +kernel) (by decide +kernel)
theorem gm438 : (.methodLink "BlockLayer" 23 y_BL_requireBlock : Cond) ∈ G := gmk 476 (by decide +kernel) (by decide +kernel)
theorem gm439 : (.static y_BL_requireBlock : Cond) ∈ G := gmk 477 (by decide +kernel) (by decide +kernel)
theorem gm440 : (.code y_BL_requireBlock prog_1_method_16_code 1 none : Cond) ∈ G := gmk 478 (by decide +kernel) (by decide +kernel)
theorem gm441 : (.classLink "BlockLayer" 171 "java/lang/IndexOutOfBoundsException" : Cond) ∈ G := gmk 479 (by decide +kernel) (by decide +kernel)
theorem gm442 : (.instantiable "java/lang/IndexOutOfBoundsException" 6 : Cond) ∈ G := gmk 480 (by decide +kernel) (by decide +kernel)
theorem gm450 : (.selects "java/lang/IndexOutOfBoundsException" ⟨"java/lang/Throwable", "fillInStackTrace", "(I)Ljava/lang/Throwable;"⟩ ⟨"java/lang/Throwable", "fillInStackTrace", "(I)Ljava/lang/Throwable;"⟩ : Cond) ∈ G := gmk 488 (by decide +kernel) (by decide +kernel)
theorem gm451 : (.selects "java/lang/IndexOutOfBoundsException" ⟨"java/lang/Throwable", "fillInStackTrace", "()Ljava/lang/Throwable;"⟩ ⟨"java/lang/Throwable", "fillInStackTrace", "()Ljava/lang/Throwable;"⟩ : Cond) ∈ G := gmk 489 (by decide +kernel) (by decide +kernel)
theorem gm452 : (.lays "java/lang/IndexOutOfBoundsException" "java/lang/Throwable" "cause" "Ljava/lang/Throwable;" : Cond) ∈ G := gmk 490 (by decide +kernel) (by decide +kernel)
theorem gm453 : (.lays "java/lang/Throwable" "java/lang/Throwable" "cause" "Ljava/lang/Throwable;" : Cond) ∈ G := gmk 491 (by decide +kernel) (by decide +kernel)
theorem gm454 : (.lays "java/lang/IndexOutOfBoundsException" "java/lang/Throwable" "stackTrace" "[Ljava/lang/StackTraceElement;" : Cond) ∈ G := gmk 492 (by decide +kernel) (by decide +kernel)
theorem gm455 : (.lays "java/lang/Throwable" "java/lang/Throwable" "stackTrace" "[Ljava/lang/StackTraceElement;" : Cond) ∈ G := gmk 493 (by decide +kernel) (by decide +kernel)
theorem gm456 : (.lays "java/lang/IndexOutOfBoundsException" "java/lang/Throwable" "suppressedExceptions" "Ljava/util/List;" : Cond) ∈ G := gmk 494 (by decide +kernel) (by decide +kernel)
theorem gm457 : (.lays "java/lang/Throwable" "java/lang/Throwable" "suppressedExceptions" "Ljava/util/List;" : Cond) ∈ G := gmk 495 (by decide +kernel) (by decide +kernel)
theorem gm458 : (.lays "java/lang/IndexOutOfBoundsException" "java/lang/Throwable" "detailMessage" "Ljava/lang/String;" : Cond) ∈ G := gmk 496 (by decide +kernel) (by decide +kernel)
theorem gm459 : (.lays "java/lang/Throwable" "java/lang/Throwable" "detailMessage" "Ljava/lang/String;" : Cond) ∈ G := gmk 497 (by decide +kernel) (by decide +kernel)
theorem gm460 : (.lays "java/lang/IndexOutOfBoundsException" "java/lang/Throwable" "backtrace" "Ljava/lang/Object;" : Cond) ∈ G := gmk 498 (by decide +kernel) (by decide +kernel)
theorem gm461 : (.lays "java/lang/Throwable" "java/lang/Throwable" "backtrace" "Ljava/lang/Object;" : Cond) ∈ G := gmk 499 (by decide +kernel) (by decide +kernel)
theorem gm462 : (.fieldLink "java/lang/Throwable" 198 "java/lang/Throwable" "backtrace" "Ljava/lang/Object;" : Cond) ∈ G := gmk 500 (by decide +kernel) (by decide +kernel)
theorem gm463 : (.superclass "java/lang/Throwable" "java/lang/Object" : Cond) ∈ G := gmk 501 (by decide +kernel) (by decide +kernel)
theorem gm464 : (.instanceMethod ⟨"java/lang/Throwable", "<init>", "()V"⟩ : Cond) ∈ G := gmk 502 (by decide +kernel) (by decide +kernel)
theorem gm465 : (.code ⟨"java/lang/Throwable", "<init>", "()V"⟩ prog_19_method_1_code 1 none : Cond) ∈ G := gmk 503 (by decide +kernel) (by decide +kernel)
theorem gm466 : (.methodLink "java/lang/Throwable" 1 y_JO_init : Cond) ∈ G := gmk 504 (by decide +kernel) (by decide +kernel)
theorem gm467 : (.fieldLink "java/lang/Throwable" 13 "java/lang/Throwable" "UNASSIGNED_STACK" "[Ljava/lang/StackTraceElement;" : Cond) ∈ G := gmk 505 (by decide +kernel) (by decide +kernel)
theorem gm469 : (.fieldLink "java/lang/Throwable" 20 "java/lang/Throwable" "SUPPRESSED_SENTINEL" "Ljava/util/List;" : Cond) ∈ G := gmk 507 (by decide +kernel) (by decide +kernel)
theorem gm471 : (.methodLink "java/lang/Throwable" 27 ⟨"java/lang/Throwable", "fillInStackTrace", "()Ljava/lang/Throwable;"⟩ : Cond) ∈ G := gmk 509 (by decide +kernel) (by decide +kernel)
theorem gm472 : (.instanceMethod ⟨"java/lang/Throwable", "fillInStackTrace", "()Ljava/lang/Throwable;"⟩ : Cond) ∈ G := gmk 510 (by decide +kernel) (by decide +kernel)
theorem gm473 : (.sameMethod "java/lang/Throwable" "java/lang/Throwable" "fillInStackTrace" "()Ljava/lang/Throwable;" : Cond) ∈ G := gmk 511 (by decide +kernel) (by decide +kernel)
theorem gm474 : (.selects "java/lang/IllegalArgumentException" ⟨"java/lang/Throwable", "fillInStackTrace", "()Ljava/lang/Throwable;"⟩ ⟨"java/lang/Throwable", "fillInStackTrace", "()Ljava/lang/Throwable;"⟩ : Cond) ∈ G := gmk 512 (by decide +kernel) (by decide +kernel)
theorem gm475 : (.selects "java/lang/UnsupportedOperationException" ⟨"java/lang/Throwable", "fillInStackTrace", "()Ljava/lang/Throwable;"⟩ ⟨"java/lang/Throwable", "fillInStackTrace", "()Ljava/lang/Throwable;"⟩ : Cond) ∈ G := gmk 513 (by decide +kernel) (by decide +kernel)
theorem gm476 : (.codeSync ⟨"java/lang/Throwable", "fillInStackTrace", "()Ljava/lang/Throwable;"⟩ prog_19_method_18_code 1 (some (FieldType.object "java/lang/Throwable")) : Cond) ∈ G := gmk 514 (by decide +kernel) (by decide +kernel)
theorem gm477 : (.methodLink "java/lang/Throwable" 202 ⟨"java/lang/Throwable", "fillInStackTrace", "(I)Ljava/lang/Throwable;"⟩ : Cond) ∈ G := gmk 515 (by decide +kernel) (by decide +kernel)
theorem gm479 : (.instanceMethod ⟨"java/lang/Throwable", "fillInStackTrace", "(I)Ljava/lang/Throwable;"⟩ : Cond) ∈ G := gmk 517 (by decide +kernel) (by decide +kernel)
theorem gm480 : (.instantiable "java/lang/Throwable" 6 : Cond) ∈ G := gmk 518 (by decide +kernel) (by decide +kernel)
theorem gm481 : (.native ⟨"java/lang/Throwable", "fillInStackTrace", "(I)Ljava/lang/Throwable;"⟩ : Cond) ∈ G := gmk 519 (by decide +kernel) (by decide +kernel)
theorem gm483 : (.methodLink "BlockLayer" 175 ⟨"java/lang/IndexOutOfBoundsException", "<init>", "(Ljava/lang/String;)V"⟩ : Cond) ∈ G := gmk 521 (by decide +kernel) (by decide +kernel)
theorem gm484 : (.instanceMethod ⟨"java/lang/IndexOutOfBoundsException", "<init>", "(Ljava/lang/String;)V"⟩ : Cond) ∈ G := gmk 522 (by decide +kernel) (by decide +kernel)
theorem gm485 : (.code ⟨"java/lang/IndexOutOfBoundsException", "<init>", "(Ljava/lang/String;)V"⟩ prog_13_method_2_code 2 none : Cond) ∈ G := gmk 523 (by decide +kernel) (by decide +kernel)
theorem gm486 : (.methodLink "java/lang/IndexOutOfBoundsException" 7 ⟨"java/lang/RuntimeException", "<init>", "(Ljava/lang/String;)V"⟩ : Cond) ∈ G := gmk 524 (by decide +kernel) (by decide +kernel)
theorem gm487 : (.instanceMethod ⟨"java/lang/RuntimeException", "<init>", "(Ljava/lang/String;)V"⟩ : Cond) ∈ G := gmk 525 (by decide +kernel) (by decide +kernel)
theorem gm488 : (.code ⟨"java/lang/RuntimeException", "<init>", "(Ljava/lang/String;)V"⟩ prog_16_method_2_code 2 none : Cond) ∈ G := gmk 526 (by decide +kernel) (by decide +kernel)
theorem gm489 : (.methodLink "java/lang/RuntimeException" 7 ⟨"java/lang/Exception", "<init>", "(Ljava/lang/String;)V"⟩ : Cond) ∈ G := gmk 527 (by decide +kernel) (by decide +kernel)
theorem gm490 : (.instanceMethod ⟨"java/lang/Exception", "<init>", "(Ljava/lang/String;)V"⟩ : Cond) ∈ G := gmk 528 (by decide +kernel) (by decide +kernel)
theorem gm491 : (.code ⟨"java/lang/Exception", "<init>", "(Ljava/lang/String;)V"⟩ prog_11_method_2_code 2 none : Cond) ∈ G := gmk 529 (by decide +kernel) (by decide +kernel)
theorem gm492 : (.methodLink "java/lang/Exception" 7 ⟨"java/lang/Throwable", "<init>", "(Ljava/lang/String;)V"⟩ : Cond) ∈ G := gmk 530 (by decide +kernel) (by decide +kernel)
theorem gm493 : (.instanceMethod ⟨"java/lang/Throwable", "<init>", "(Ljava/lang/String;)V"⟩ : Cond) ∈ G := gmk 531 (by decide +kernel) (by decide +kernel)
theorem gm494 : (.code ⟨"java/lang/Throwable", "<init>", "(Ljava/lang/String;)V"⟩ prog_19_method_2_code 2 none : Cond) ∈ G := gmk 532 (by decide +kernel) (by decide +kernel)
theorem gm495 : (.fieldLink "java/lang/Throwable" 198 "java/lang/Throwable" "backtrace" "Ljava/lang/Object;" : Cond) ∈ G := gmk 533 (by decide +kernel) (by decide +kernel)
theorem gm496 : (.fieldLink "java/lang/Throwable" 31 "java/lang/Throwable" "detailMessage" "Ljava/lang/String;" : Cond) ∈ G := gmk 534 (by decide +kernel) (by decide +kernel)
theorem gm497 : (.fieldLink "java/lang/Throwable" 7 "java/lang/Throwable" "cause" "Ljava/lang/Throwable;" : Cond) ∈ G := gmk 535 (by decide +kernel) (by decide +kernel)
theorem gm498 : (.fieldLink "java/lang/Throwable" 17 "java/lang/Throwable" "stackTrace" "[Ljava/lang/StackTraceElement;" : Cond) ∈ G := gmk 536 (by decide +kernel) (by decide +kernel)
theorem gm499 : (.fieldLink "java/lang/Throwable" 24 "java/lang/Throwable" "suppressedExceptions" "Ljava/util/List;" : Cond) ∈ G := gmk 537 (by decide +kernel) (by decide +kernel)
theorem gm504 : (.lays "java/lang/IndexOutOfBoundsException" "java/lang/Throwable" "depth" "I" : Cond) ∈ G := gmk 542 (by decide +kernel) (by decide +kernel)
theorem gm507 : (.superclass "java/lang/IndexOutOfBoundsException" "java/lang/RuntimeException" : Cond) ∈ G := gmk 545 (by decide +kernel) (by decide +kernel)
theorem gm508 : (.arrayClass FieldType.byte : Cond) ∈ G := gmk 546 (by decide +kernel) (by decide +kernel)
theorem gm509 : (.methodLink "BlockLayer" 27 y_BL_requireQueueRoom : Cond) ∈ G := gmk 547 (by decide +kernel) (by decide +kernel)
theorem gm511 : (.instanceMethod y_BL_requireQueueRoom : Cond) ∈ G := gmk 549 (by decide +kernel) (by decide +kernel)
theorem gm512 : (.code y_BL_requireQueueRoom prog_1_method_17_code 2 none : Cond) ∈ G := gmk 550 (by decide +kernel) (by decide +kernel)
theorem gm513 : (.classLink "BlockLayer" 176 "java/lang/UnsupportedOperationException" : Cond) ∈ G := gmk 551 (by decide +kernel) (by decide +kernel)
theorem gm514 : (.instantiable "java/lang/UnsupportedOperationException" 6 : Cond) ∈ G := gmk 552 (by decide +kernel) (by decide +kernel)
theorem gm516 : (.selects "java/lang/UnsupportedOperationException" ⟨"java/lang/Throwable", "fillInStackTrace", "(I)Ljava/lang/Throwable;"⟩ ⟨"java/lang/Throwable", "fillInStackTrace", "(I)Ljava/lang/Throwable;"⟩ : Cond) ∈ G := gmk 554 (by decide +kernel) (by decide +kernel)
theorem gm517 : (.lays "java/lang/UnsupportedOperationException" "java/lang/Throwable" "cause" "Ljava/lang/Throwable;" : Cond) ∈ G := gmk 555 (by decide +kernel) (by decide +kernel)
theorem gm518 : (.lays "java/lang/UnsupportedOperationException" "java/lang/Throwable" "stackTrace" "[Ljava/lang/StackTraceElement;" : Cond) ∈ G := gmk 556 (by decide +kernel) (by decide +kernel)
theorem gm519 : (.lays "java/lang/UnsupportedOperationException" "java/lang/Throwable" "suppressedExceptions" "Ljava/util/List;" : Cond) ∈ G := gmk 557 (by decide +kernel) (by decide +kernel)
theorem gm520 : (.lays "java/lang/UnsupportedOperationException" "java/lang/Throwable" "detailMessage" "Ljava/lang/String;" : Cond) ∈ G := gmk 558 (by decide +kernel) (by decide +kernel)
theorem gm521 : (.lays "java/lang/UnsupportedOperationException" "java/lang/Throwable" "backtrace" "Ljava/lang/Object;" : Cond) ∈ G := gmk 559 (by decide +kernel) (by decide +kernel)
theorem gm523 : (.methodLink "BlockLayer" 180 ⟨"java/lang/UnsupportedOperationException", "<init>", "(Ljava/lang/String;)V"⟩ : Cond) ∈ G := gmk 561 (by decide +kernel) (by decide +kernel)
theorem gm524 : (.instanceMethod ⟨"java/lang/UnsupportedOperationException", "<init>", "(Ljava/lang/String;)V"⟩ : Cond) ∈ G := gmk 562 (by decide +kernel) (by decide +kernel)
theorem gm525 : (.code ⟨"java/lang/UnsupportedOperationException", "<init>", "(Ljava/lang/String;)V"⟩ prog_20_method_2_code 2 none : Cond) ∈ G := gmk 563 (by decide +kernel) (by decide +kernel)
theorem gm526 : (.methodLink "java/lang/UnsupportedOperationException" 7 ⟨"java/lang/RuntimeException", "<init>", "(Ljava/lang/String;)V"⟩ : Cond) ∈ G := gmk 564 (by decide +kernel) (by decide +kernel)
theorem gm527 : (.lays "java/lang/UnsupportedOperationException" "java/lang/Throwable" "depth" "I" : Cond) ∈ G := gmk 565 (by decide +kernel) (by decide +kernel)
theorem gm528 : (.superclass "java/lang/UnsupportedOperationException" "java/lang/RuntimeException" : Cond) ∈ G := gmk 566 (by decide +kernel) (by decide +kernel)
theorem gm529 : (.methodLink "BlockLayer" 38 y_BL_makeBufferRoom : Cond) ∈ G := gmk 567 (by decide +kernel) (by decide +kernel)
theorem gm531 : (.instanceMethod y_BL_makeBufferRoom : Cond) ∈ G := gmk 569 (by decide +kernel) (by decide +kernel)
theorem gm532 : (.code y_BL_makeBufferRoom prog_1_method_18_code 2 none : Cond) ∈ G := gmk 570 (by decide +kernel) (by decide +kernel)
theorem gm533 : (.methodLink "BlockLayer" 181 y_CS_takeFirst : Cond) ∈ G := gmk 571 (by decide +kernel) (by decide +kernel)
theorem gm534 : (.methodLink "BlockLayer" 81 y_BL_writeBack : Cond) ∈ G := gmk 572 (by decide +kernel) (by decide +kernel)
theorem gm536 : (.instanceMethod y_BL_writeBack : Cond) ∈ G := gmk 574 (by decide +kernel) (by decide +kernel)
theorem gm537 : (.code y_BL_writeBack prog_1_method_19_code 3 none : Cond) ∈ G := gmk 575 (by decide +kernel) (by decide +kernel)
theorem gm538 : (.methodLink "BlockLayer" 184 y_QU_absorberOf : Cond) ∈ G := gmk 576 (by decide +kernel) (by decide +kernel)
theorem gm539 : (.instanceMethod y_QU_absorberOf : Cond) ∈ G := gmk 577 (by decide +kernel) (by decide +kernel)
theorem gm540 : (.selects "BlockLayer$Queue" y_QU_absorberOf y_QU_absorberOf : Cond) ∈ G := gmk 578 (by decide +kernel) (by decide +kernel)
theorem gm541 : (.code y_QU_absorberOf prog_5_method_8_code 4 (some (FieldType.object "BlockLayer$Request")) : Cond) ∈ G := gmk 579 (by decide +kernel) (by decide +kernel)
theorem gm542 : (.methodLink "BlockLayer" 41 y_BL_makeRequest : Cond) ∈ G := gmk 580 (by decide +kernel) (by decide +kernel)
theorem gm544 : (.instanceMethod y_BL_makeRequest : Cond) ∈ G := gmk 582 (by decide +kernel) (by decide +kernel)
theorem gm545 : (.code y_BL_makeRequest prog_1_method_20_code 5 (some (FieldType.object "BlockLayer$Request")) : Cond) ∈ G := gmk 583 (by decide +kernel) (by decide +kernel)
theorem gm546 : (.classLink "BlockLayer" 46 "BlockLayer$Request" : Cond) ∈ G := gmk 584 (by decide +kernel) (by decide +kernel)
theorem gm547 : (.instantiable "BlockLayer$Request" 6 : Cond) ∈ G := gmk 585 (by decide +kernel) (by decide +kernel)
theorem gm548 : (.methodLink "BlockLayer" 190 y_RQ_init : Cond) ∈ G := gmk 586 (by decide +kernel) (by decide +kernel)
theorem gm549 : (.instanceMethod y_RQ_init : Cond) ∈ G := gmk 587 (by decide +kernel) (by decide +kernel)
theorem gm550 : (.code y_RQ_init prog_6_method_1_code 6 none : Cond) ∈ G := gmk 588 (by decide +kernel) (by decide +kernel)
theorem gm551 : (.methodLink "BlockLayer$Request" 1 y_JO_init : Cond) ∈ G := gmk 589 (by decide +kernel) (by decide +kernel)
theorem gm552 : (.fieldLink "BlockLayer$Request" 7 "BlockLayer$Request" "number" "I" : Cond) ∈ G := gmk 590 (by decide +kernel) (by decide +kernel)
theorem gm553 : (.fieldLink "BlockLayer$Queue" 38 "BlockLayer$Request" "number" "I" : Cond) ∈ G := gmk 591 (by decide +kernel) (by decide +kernel)
theorem gm554 : (.fieldLink "BlockLayer" 135 "BlockLayer$Request" "number" "I" : Cond) ∈ G := gmk 592 (by decide +kernel) (by decide +kernel)
theorem gm555 : (.fieldLink "BlockLayer$Request" 13 "BlockLayer$Request" "kind" "I" : Cond) ∈ G := gmk 593 (by decide +kernel) (by decide +kernel)
theorem gm556 : (.fieldLink "BlockLayer$Disk" 55 "BlockLayer$Request" "kind" "I" : Cond) ∈ G := gmk 594 (by decide +kernel) (by decide +kernel)
theorem gm557 : (.fieldLink "BlockLayer$Queue" 42 "BlockLayer$Request" "kind" "I" : Cond) ∈ G := gmk 595 (by decide +kernel) (by decide +kernel)
theorem gm558 : (.fieldLink "BlockLayer" 141 "BlockLayer$Request" "kind" "I" : Cond) ∈ G := gmk 596 (by decide +kernel) (by decide +kernel)
theorem gm559 : (.fieldLink "BlockLayer$Request" 16 "BlockLayer$Request" "block" "I" : Cond) ∈ G := gmk 597 (by decide +kernel) (by decide +kernel)
theorem gm560 : (.fieldLink "BlockLayer$Disk" 60 "BlockLayer$Request" "block" "I" : Cond) ∈ G := gmk 598 (by decide +kernel) (by decide +kernel)
theorem gm561 : (.fieldLink "BlockLayer$Queue" 45 "BlockLayer$Request" "block" "I" : Cond) ∈ G := gmk 599 (by decide +kernel) (by decide +kernel)
theorem gm562 : (.fieldLink "BlockLayer" 144 "BlockLayer$Request" "block" "I" : Cond) ∈ G := gmk 600 (by decide +kernel) (by decide +kernel)
theorem gm563 : (.fieldLink "BlockLayer$Request" 22 "BlockLayer$Request" "made" "I" : Cond) ∈ G := gmk 601 (by decide +kernel) (by decide +kernel)
theorem gm564 : (.fieldLink "BlockLayer$Disk" 147 "BlockLayer$Request" "made" "I" : Cond) ∈ G := gmk 602 (by decide +kernel) (by decide +kernel)
theorem gm565 : (.fieldLink "BlockLayer" 145 "BlockLayer$Request" "made" "I" : Cond) ∈ G := gmk 603 (by decide +kernel) (by decide +kernel)
theorem gm566 : (.fieldLink "BlockLayer$Request" 19 "BlockLayer$Request" "value" "I" : Cond) ∈ G := gmk 604 (by decide +kernel) (by decide +kernel)
theorem gm567 : (.fieldLink "BlockLayer" 56 "BlockLayer$Request" "value" "I" : Cond) ∈ G := gmk 605 (by decide +kernel) (by decide +kernel)
theorem gm568 : (.fieldLink "BlockLayer$Disk" 63 "BlockLayer$Request" "value" "I" : Cond) ∈ G := gmk 606 (by decide +kernel) (by decide +kernel)
theorem gm569 : (.fieldLink "BlockLayer" 45 "BlockLayer$Request" "ended" "Z" : Cond) ∈ G := gmk 607 (by decide +kernel) (by decide +kernel)
theorem gm570 : (.fieldLink "BlockLayer$Disk" 115 "BlockLayer$Request" "ended" "Z" : Cond) ∈ G := gmk 608 (by decide +kernel) (by decide +kernel)
theorem gm571 : (.laysFinal "BlockLayer$Request" "BlockLayer$Request" "number" "I" : Cond) ∈ G := gmk 609 (by decide +kernel) (by decide +kernel)
theorem gm573 : (.laysFinal "BlockLayer$Request" "BlockLayer$Request" "kind" "I" : Cond) ∈ G := gmk 611 (by decide +kernel) (by decide +kernel)
theorem gm575 : (.laysFinal "BlockLayer$Request" "BlockLayer$Request" "block" "I" : Cond) ∈ G := gmk 613 (by decide +kernel) (by decide +kernel)
theorem gm577 : (.laysFinal "BlockLayer$Request" "BlockLayer$Request" "made" "I" : Cond) ∈ G := gmk 615 (by decide +kernel) (by decide +kernel)
theorem gm579 : (.lays "BlockLayer$Request" "BlockLayer$Request" "value" "I" : Cond) ∈ G := gmk 617 (by decide +kernel) (by decide +kernel)
theorem gm581 : (.lays "BlockLayer$Request" "BlockLayer$Request" "ended" "Z" : Cond) ∈ G := gmk 619 (by decide +kernel) (by decide +kernel)
theorem gm583 : (.superclass "BlockLayer$Request" "java/lang/Object" : Cond) ∈ G := gmk 621 (by decide +kernel) (by decide +kernel)
theorem gm584 : (.methodLink "BlockLayer" 193 y_QU_add : Cond) ∈ G := gmk 622 (by decide +kernel) (by decide +kernel)
theorem gm585 : (.instanceMethod y_QU_add : Cond) ∈ G := gmk 623 (by decide +kernel) (by decide +kernel)
theorem gm586 : (.selects "BlockLayer$Queue" y_QU_add y_QU_add : Cond) ∈ G := gmk 624 (by decide +kernel) (by decide +kernel)
theorem gm587 : (.code y_QU_add prog_5_method_4_code 2 none : Cond) ∈ G := gmk 625 (by decide +kernel) (by decide +kernel)
theorem gm588 : (.methodLink "BlockLayer$Queue" 28 y_AL_add0 : Cond) ∈ G := gmk 626 (by decide +kernel) (by decide +kernel)
theorem gm589 : (.classLink "BlockLayer" 54 "BlockLayer$Copy" : Cond) ∈ G := gmk 627 (by decide +kernel) (by decide +kernel)
theorem gm590 : (.methodLink "BlockLayer" 59 y_CP_init : Cond) ∈ G := gmk 628 (by decide +kernel) (by decide +kernel)
theorem gm591 : (.methodLink "BlockLayer" 65 y_CS_putLast : Cond) ∈ G := gmk 629 (by decide +kernel) (by decide +kernel)
theorem gm592 : (.methodLink "BlockLayerLaw" 55 y_LW_save : Cond) ∈ G := gmk 630 (by decide +kernel) (by decide +kernel)
theorem gm593 : (.static y_LW_save : Cond) ∈ G := gmk 631 (by decide +kernel) (by decide +kernel)
theorem gm594 : (.codeWith y_LW_save method_4_code 5 (some FieldType.int) [(0, 10, 13, 13), (0, 10, 17, 15)] : Cond) ∈ G := gmk 632 (by decide +kernel) (by decide +kernel)
theorem gm595 : (.methodLink "BlockLayerLaw" 17 y_BL_save : Cond) ∈ G := gmk 633 (by decide +kernel) (by decide +kernel)
theorem gm596 : (.instanceMethod y_BL_save : Cond) ∈ G := gmk 634 (by decide +kernel) (by decide +kernel)
theorem gm597 : (.selects "BlockLayer" y_BL_save y_BL_save : Cond) ∈ G := gmk 635 (by decide +kernel) (by decide +kernel)
theorem gm598 : (.code y_BL_save prog_1_method_3_code 5 (some FieldType.int) : Cond) ∈ G := gmk 636 (by decide +kernel) (by decide +kernel)
theorem gm599 : (.methodLink "BlockLayerLaw" 59 y_LW_sync : Cond) ∈ G := gmk 637 (by decide +kernel) (by decide +kernel)
theorem gm600 : (.static y_LW_sync : Cond) ∈ G := gmk 638 (by decide +kernel) (by decide +kernel)
theorem gm601 : (.codeWith y_LW_sync method_5_code 3 (some FieldType.int) [(0, 8, 11, 15)] : Cond) ∈ G := gmk 639 (by decide +kernel) (by decide +kernel)
theorem gm602 : (.methodLink "BlockLayerLaw" 21 y_BL_sync : Cond) ∈ G := gmk 640 (by decide +kernel) (by decide +kernel)
theorem gm603 : (.instanceMethod y_BL_sync : Cond) ∈ G := gmk 641 (by decide +kernel) (by decide +kernel)
theorem gm604 : (.selects "BlockLayer" y_BL_sync y_BL_sync : Cond) ∈ G := gmk 642 (by decide +kernel) (by decide +kernel)
theorem gm605 : (.code y_BL_sync prog_1_method_4_code 4 (some FieldType.int) : Cond) ∈ G := gmk 643 (by decide +kernel) (by decide +kernel)
theorem gm606 : (.methodLink "BlockLayer" 77 y_CS_dirtyOfLeastBlock : Cond) ∈ G := gmk 644 (by decide +kernel) (by decide +kernel)
theorem gm607 : (.instanceMethod y_CS_dirtyOfLeastBlock : Cond) ∈ G := gmk 645 (by decide +kernel) (by decide +kernel)
theorem gm608 : (.selects "BlockLayer$Copies" y_CS_dirtyOfLeastBlock y_CS_dirtyOfLeastBlock : Cond) ∈ G := gmk 646 (by decide +kernel) (by decide +kernel)
theorem gm609 : (.code y_CS_dirtyOfLeastBlock prog_2_method_7_code 4 (some (FieldType.object "BlockLayer$Copy")) : Cond) ∈ G := gmk 647 (by decide +kernel) (by decide +kernel)
theorem gm610 : (.methodLink "BlockLayerLaw" 63 y_LW_step : Cond) ∈ G := gmk 648 (by decide +kernel) (by decide +kernel)
theorem gm611 : (.static y_LW_step : Cond) ∈ G := gmk 649 (by decide +kernel) (by decide +kernel)
theorem gm612 : (.codeWith y_LW_step method_6_code 4 (some FieldType.int) [(0, 9, 12, 28)] : Cond) ∈ G := gmk 650 (by decide +kernel) (by decide +kernel)
theorem gm613 : (.classLink "BlockLayerLaw" 28 "java/lang/IllegalArgumentException" : Cond) ∈ G := gmk 651 (by decide +kernel) (by decide +kernel)
theorem gm614 : (.methodLink "BlockLayerLaw" 25 y_BL_step : Cond) ∈ G := gmk 652 (by decide +kernel) (by decide +kernel)
theorem gm615 : (.instanceMethod y_BL_step : Cond) ∈ G := gmk 653 (by decide +kernel) (by decide +kernel)
theorem gm616 : (.selects "BlockLayer" y_BL_step y_BL_step : Cond) ∈ G := gmk 654 (by decide +kernel) (by decide +kernel)
theorem gm617 : (.code y_BL_step prog_1_method_5_code 2 (some FieldType.int) : Cond) ∈ G := gmk 655 (by decide +kernel) (by decide +kernel)
theorem gm618 : (.classLink "BlockLayer" 84 "java/lang/IllegalArgumentException" : Cond) ∈ G := gmk 656 (by decide +kernel) (by decide +kernel)
theorem gm619 : (.instantiable "java/lang/IllegalArgumentException" 6 : Cond) ∈ G := gmk 657 (by decide +kernel) (by decide +kernel)
theorem gm621 : (.selects "java/lang/IllegalArgumentException" ⟨"java/lang/Throwable", "fillInStackTrace", "(I)Ljava/lang/Throwable;"⟩ ⟨"java/lang/Throwable", "fillInStackTrace", "(I)Ljava/lang/Throwable;"⟩ : Cond) ∈ G := gmk 659 (by decide +kernel) (by decide +kernel)
theorem gm622 : (.lays "java/lang/IllegalArgumentException" "java/lang/Throwable" "cause" "Ljava/lang/Throwable;" : Cond) ∈ G := gmk 660 (by decide +kernel) (by decide +kernel)
theorem gm623 : (.lays "java/lang/IllegalArgumentException" "java/lang/Throwable" "stackTrace" "[Ljava/lang/StackTraceElement;" : Cond) ∈ G := gmk 661 (by decide +kernel) (by decide +kernel)
theorem gm624 : (.lays "java/lang/IllegalArgumentException" "java/lang/Throwable" "suppressedExceptions" "Ljava/util/List;" : Cond) ∈ G := gmk 662 (by decide +kernel) (by decide +kernel)
theorem gm625 : (.lays "java/lang/IllegalArgumentException" "java/lang/Throwable" "detailMessage" "Ljava/lang/String;" : Cond) ∈ G := gmk 663 (by decide +kernel) (by decide +kernel)
theorem gm626 : (.lays "java/lang/IllegalArgumentException" "java/lang/Throwable" "backtrace" "Ljava/lang/Object;" : Cond) ∈ G := gmk 664 (by decide +kernel) (by decide +kernel)
theorem gm628 : (.methodLink "BlockLayer" 88 ⟨"java/lang/IllegalArgumentException", "<init>", "(Ljava/lang/String;)V"⟩ : Cond) ∈ G := gmk 666 (by decide +kernel) (by decide +kernel)
theorem gm629 : (.instanceMethod ⟨"java/lang/IllegalArgumentException", "<init>", "(Ljava/lang/String;)V"⟩ : Cond) ∈ G := gmk 667 (by decide +kernel) (by decide +kernel)
theorem gm630 : (.code ⟨"java/lang/IllegalArgumentException", "<init>", "(Ljava/lang/String;)V"⟩ prog_12_method_2_code 2 none : Cond) ∈ G := gmk 668 (by decide +kernel) (by decide +kernel)
theorem gm631 : (.methodLink "java/lang/IllegalArgumentException" 7 ⟨"java/lang/RuntimeException", "<init>", "(Ljava/lang/String;)V"⟩ : Cond) ∈ G := gmk 669 (by decide +kernel) (by decide +kernel)
theorem gm632 : (.lays "java/lang/IllegalArgumentException" "java/lang/Throwable" "depth" "I" : Cond) ∈ G := gmk 670 (by decide +kernel) (by decide +kernel)
theorem gm633 : (.superclass "java/lang/IllegalArgumentException" "java/lang/RuntimeException" : Cond) ∈ G := gmk 671 (by decide +kernel) (by decide +kernel)
theorem gm634 : (.methodLink "BlockLayer" 91 y_DK_pass : Cond) ∈ G := gmk 672 (by decide +kernel) (by decide +kernel)
theorem gm635 : (.instanceMethod y_DK_pass : Cond) ∈ G := gmk 673 (by decide +kernel) (by decide +kernel)
theorem gm636 : (.selects "BlockLayer$Disk" y_DK_pass y_DK_pass : Cond) ∈ G := gmk 674 (by decide +kernel) (by decide +kernel)
theorem gm637 : (.code y_DK_pass prog_4_method_3_code 4 none : Cond) ∈ G := gmk 675 (by decide +kernel) (by decide +kernel)
theorem gm638 : (.methodLink "BlockLayerLaw" 70 y_LW_policy : Cond) ∈ G := gmk 676 (by decide +kernel) (by decide +kernel)
theorem gm639 : (.static y_LW_policy : Cond) ∈ G := gmk 677 (by decide +kernel) (by decide +kernel)
theorem gm640 : (.codeWith y_LW_policy method_7_code 4 (some FieldType.int) [(0, 9, 12, 28)] : Cond) ∈ G := gmk 678 (by decide +kernel) (by decide +kernel)
theorem gm641 : (.methodLink "BlockLayerLaw" 30 y_BL_policy : Cond) ∈ G := gmk 679 (by decide +kernel) (by decide +kernel)
theorem gm642 : (.instanceMethod y_BL_policy : Cond) ∈ G := gmk 680 (by decide +kernel) (by decide +kernel)
theorem gm643 : (.selects "BlockLayer" y_BL_policy y_BL_policy : Cond) ∈ G := gmk 681 (by decide +kernel) (by decide +kernel)
theorem gm644 : (.code y_BL_policy prog_1_method_7_code 3 (some FieldType.int) : Cond) ∈ G := gmk 682 (by decide +kernel) (by decide +kernel)
theorem gm646 : (.methodLink "BlockLayerLaw" 77 y_LW_newest : Cond) ∈ G := gmk 684 (by decide +kernel) (by decide +kernel)
theorem gm647 : (.static y_LW_newest : Cond) ∈ G := gmk 685 (by decide +kernel) (by decide +kernel)
theorem gm648 : (.codeWith y_LW_newest method_8_code 4 (some FieldType.int) [(0, 9, 12, 13)] : Cond) ∈ G := gmk 686 (by decide +kernel) (by decide +kernel)
theorem gm649 : (.methodLink "BlockLayerLaw" 33 y_BL_newest : Cond) ∈ G := gmk 687 (by decide +kernel) (by decide +kernel)
theorem gm650 : (.instanceMethod y_BL_newest : Cond) ∈ G := gmk 688 (by decide +kernel) (by decide +kernel)
theorem gm651 : (.selects "BlockLayer" y_BL_newest y_BL_newest : Cond) ∈ G := gmk 689 (by decide +kernel) (by decide +kernel)
theorem gm652 : (.code y_BL_newest prog_1_method_9_code 2 (some FieldType.int) : Cond) ∈ G := gmk 690 (by decide +kernel) (by decide +kernel)
theorem gm653 : (.methodLink "BlockLayerLaw" 80 y_LW_media : Cond) ∈ G := gmk 691 (by decide +kernel) (by decide +kernel)
theorem gm654 : (.static y_LW_media : Cond) ∈ G := gmk 692 (by decide +kernel) (by decide +kernel)
theorem gm655 : (.codeWith y_LW_media method_9_code 4 (some FieldType.int) [(0, 9, 12, 13)] : Cond) ∈ G := gmk 693 (by decide +kernel) (by decide +kernel)
theorem gm656 : (.methodLink "BlockLayerLaw" 36 y_BL_media : Cond) ∈ G := gmk 694 (by decide +kernel) (by decide +kernel)
theorem gm657 : (.instanceMethod y_BL_media : Cond) ∈ G := gmk 695 (by decide +kernel) (by decide +kernel)
theorem gm658 : (.selects "BlockLayer" y_BL_media y_BL_media : Cond) ∈ G := gmk 696 (by decide +kernel) (by decide +kernel)
theorem gm659 : (.code y_BL_media prog_1_method_10_code 2 (some FieldType.int) : Cond) ∈ G := gmk 697 (by decide +kernel) (by decide +kernel)
theorem gm660 : (.methodLink "BlockLayerLaw" 83 y_LW_buffer : Cond) ∈ G := gmk 698 (by decide +kernel) (by decide +kernel)
theorem gm661 : (.static y_LW_buffer : Cond) ∈ G := gmk 699 (by decide +kernel) (by decide +kernel)
theorem gm662 : (.codeWith y_LW_buffer method_10_code 4 (some FieldType.int) [(0, 9, 12, 13)] : Cond) ∈ G := gmk 700 (by decide +kernel) (by decide +kernel)
theorem gm663 : (.methodLink "BlockLayerLaw" 39 y_BL_buffer : Cond) ∈ G := gmk 701 (by decide +kernel) (by decide +kernel)
theorem gm664 : (.instanceMethod y_BL_buffer : Cond) ∈ G := gmk 702 (by decide +kernel) (by decide +kernel)
theorem gm665 : (.selects "BlockLayer" y_BL_buffer y_BL_buffer : Cond) ∈ G := gmk 703 (by decide +kernel) (by decide +kernel)
theorem gm666 : (.code y_BL_buffer prog_1_method_11_code 3 (some FieldType.int) : Cond) ∈ G := gmk 704 (by decide +kernel) (by decide +kernel)
theorem gm667 : (.classLink "BlockLayerLaw" 43 "BlockLayerModel" : Cond) ∈ G := gmk 705 (by decide +kernel) (by decide +kernel)
theorem gm668 : (.instantiable "BlockLayerModel" 29 : Cond) ∈ G := gmk 706 (by decide +kernel) (by decide +kernel)
theorem gm669 : (.methodLink "BlockLayerLaw" 45 y_MD_init : Cond) ∈ G := gmk 707 (by decide +kernel) (by decide +kernel)
theorem gm670 : (.instanceMethod y_MD_init : Cond) ∈ G := gmk 708 (by decide +kernel) (by decide +kernel)
theorem gm671 : (.code y_MD_init prog_8_method_1_code 1 none : Cond) ∈ G := gmk 709 (by decide +kernel) (by decide +kernel)
theorem gm672 : (.methodLink "BlockLayerModel" 1 y_JO_init : Cond) ∈ G := gmk 710 (by decide +kernel) (by decide +kernel)
theorem gm673 : (.fieldLink "BlockLayerModel" 52 "BlockLayerModel" "code" "I" : Cond) ∈ G := gmk 711 (by decide +kernel) (by decide +kernel)
theorem gm674 : (.fieldLink "BlockLayerModel" 78 "BlockLayerModel" "now" "I" : Cond) ∈ G := gmk 712 (by decide +kernel) (by decide +kernel)
theorem gm675 : (.fieldLink "BlockLayerModel" 156 "BlockLayerModel" "idle" "I" : Cond) ∈ G := gmk 713 (by decide +kernel) (by decide +kernel)
theorem gm676 : (.fieldLink "BlockLayerModel" 137 "BlockLayerModel" "hits" "I" : Cond) ∈ G := gmk 714 (by decide +kernel) (by decide +kernel)
theorem gm677 : (.fieldLink "BlockLayerModel" 144 "BlockLayerModel" "misses" "I" : Cond) ∈ G := gmk 715 (by decide +kernel) (by decide +kernel)
theorem gm678 : (.fieldLink "BlockLayerModel" 62 "BlockLayerModel" "evictions" "I" : Cond) ∈ G := gmk 716 (by decide +kernel) (by decide +kernel)
theorem gm679 : (.fieldLink "BlockLayerModel" 72 "BlockLayerModel" "absorbed" "I" : Cond) ∈ G := gmk 717 (by decide +kernel) (by decide +kernel)
theorem gm680 : (.fieldLink "BlockLayerModel" 119 "BlockLayerModel" "served" "I" : Cond) ∈ G := gmk 718 (by decide +kernel) (by decide +kernel)
theorem gm681 : (.fieldLink "BlockLayerModel" 7 "BlockLayerModel" "policy" "I" : Cond) ∈ G := gmk 719 (by decide +kernel) (by decide +kernel)
theorem gm682 : (.fieldLink "BlockLayerModel" 13 "BlockLayerModel" "media" "[I" : Cond) ∈ G := gmk 720 (by decide +kernel) (by decide +kernel)
theorem gm683 : (.fieldLink "BlockLayerModel" 55 "BlockLayerModel" "buffers" "I" : Cond) ∈ G := gmk 721 (by decide +kernel) (by decide +kernel)
theorem gm684 : (.fieldLink "BlockLayerModel" 17 "BlockLayerModel" "bufferBlock" "[I" : Cond) ∈ G := gmk 722 (by decide +kernel) (by decide +kernel)
theorem gm685 : (.fieldLink "BlockLayerModel" 20 "BlockLayerModel" "bufferValue" "[I" : Cond) ∈ G := gmk 723 (by decide +kernel) (by decide +kernel)
theorem gm686 : (.fieldLink "BlockLayerModel" 23 "BlockLayerModel" "dirty" "[Z" : Cond) ∈ G := gmk 724 (by decide +kernel) (by decide +kernel)
theorem gm687 : (.fieldLink "BlockLayerModel" 75 "BlockLayerModel" "numbers" "I" : Cond) ∈ G := gmk 725 (by decide +kernel) (by decide +kernel)
theorem gm688 : (.fieldLink "BlockLayerModel" 69 "BlockLayerModel" "queue" "I" : Cond) ∈ G := gmk 726 (by decide +kernel) (by decide +kernel)
theorem gm689 : (.fieldLink "BlockLayerModel" 27 "BlockLayerModel" "number" "[I" : Cond) ∈ G := gmk 727 (by decide +kernel) (by decide +kernel)
theorem gm690 : (.fieldLink "BlockLayerModel" 30 "BlockLayerModel" "kind" "[I" : Cond) ∈ G := gmk 728 (by decide +kernel) (by decide +kernel)
theorem gm691 : (.fieldLink "BlockLayerModel" 33 "BlockLayerModel" "block" "[I" : Cond) ∈ G := gmk 729 (by decide +kernel) (by decide +kernel)
theorem gm692 : (.fieldLink "BlockLayerModel" 36 "BlockLayerModel" "value" "[I" : Cond) ∈ G := gmk 730 (by decide +kernel) (by decide +kernel)
theorem gm693 : (.fieldLink "BlockLayerModel" 39 "BlockLayerModel" "made" "[I" : Cond) ∈ G := gmk 731 (by decide +kernel) (by decide +kernel)
theorem gm694 : (.fieldLink "BlockLayerModel" 113 "BlockLayerModel" "cached" "I" : Cond) ∈ G := gmk 732 (by decide +kernel) (by decide +kernel)
theorem gm695 : (.fieldLink "BlockLayerModel" 42 "BlockLayerModel" "cacheBlock" "[I" : Cond) ∈ G := gmk 733 (by decide +kernel) (by decide +kernel)
theorem gm696 : (.fieldLink "BlockLayerModel" 45 "BlockLayerModel" "cacheValue" "[I" : Cond) ∈ G := gmk 734 (by decide +kernel) (by decide +kernel)
theorem gm697 : (.fieldLink "BlockLayerModel" 85 "BlockLayerModel" "head" "I" : Cond) ∈ G := gmk 735 (by decide +kernel) (by decide +kernel)
theorem gm698 : (.fieldLink "BlockLayerModel" 48 "BlockLayerModel" "up" "Z" : Cond) ∈ G := gmk 736 (by decide +kernel) (by decide +kernel)
theorem gm699 : (.fieldLink "BlockLayerModel" 110 "BlockLayerModel" "serves" "Z" : Cond) ∈ G := gmk 737 (by decide +kernel) (by decide +kernel)
theorem gm700 : (.fieldLink "BlockLayerModel" 116 "BlockLayerModel" "until" "I" : Cond) ∈ G := gmk 738 (by decide +kernel) (by decide +kernel)
theorem gm701 : (.fieldLink "BlockLayerModel" 125 "BlockLayerModel" "lastRead" "I" : Cond) ∈ G := gmk 739 (by decide +kernel) (by decide +kernel)
theorem gm702 : (.lays "BlockLayerModel" "BlockLayerModel" "code" "I" : Cond) ∈ G := gmk 740 (by decide +kernel) (by decide +kernel)
theorem gm704 : (.lays "BlockLayerModel" "BlockLayerModel" "now" "I" : Cond) ∈ G := gmk 742 (by decide +kernel) (by decide +kernel)
theorem gm706 : (.lays "BlockLayerModel" "BlockLayerModel" "idle" "I" : Cond) ∈ G := gmk 744 (by decide +kernel) (by decide +kernel)
theorem gm708 : (.lays "BlockLayerModel" "BlockLayerModel" "hits" "I" : Cond) ∈ G := gmk 746 (by decide +kernel) (by decide +kernel)
theorem gm710 : (.lays "BlockLayerModel" "BlockLayerModel" "misses" "I" : Cond) ∈ G := gmk 748 (by decide +kernel) (by decide +kernel)
theorem gm712 : (.lays "BlockLayerModel" "BlockLayerModel" "evictions" "I" : Cond) ∈ G := gmk 750 (by decide +kernel) (by decide +kernel)
theorem gm714 : (.lays "BlockLayerModel" "BlockLayerModel" "absorbed" "I" : Cond) ∈ G := gmk 752 (by decide +kernel) (by decide +kernel)
theorem gm716 : (.lays "BlockLayerModel" "BlockLayerModel" "served" "I" : Cond) ∈ G := gmk 754 (by decide +kernel) (by decide +kernel)
theorem gm718 : (.lays "BlockLayerModel" "BlockLayerModel" "policy" "I" : Cond) ∈ G := gmk 756 (by decide +kernel) (by decide +kernel)
theorem gm720 : (.laysFinal "BlockLayerModel" "BlockLayerModel" "media" "[I" : Cond) ∈ G := gmk 758 (by decide +kernel) (by decide +kernel)
theorem gm722 : (.lays "BlockLayerModel" "BlockLayerModel" "buffers" "I" : Cond) ∈ G := gmk 760 (by decide +kernel) (by decide +kernel)
theorem gm724 : (.laysFinal "BlockLayerModel" "BlockLayerModel" "bufferBlock" "[I" : Cond) ∈ G := gmk 762 (by decide +kernel) (by decide +kernel)
theorem gm726 : (.laysFinal "BlockLayerModel" "BlockLayerModel" "bufferValue" "[I" : Cond) ∈ G := gmk 764 (by decide +kernel) (by decide +kernel)
theorem gm728 : (.laysFinal "BlockLayerModel" "BlockLayerModel" "dirty" "[Z" : Cond) ∈ G := gmk 766 (by decide +kernel) (by decide +kernel)
theorem gm730 : (.lays "BlockLayerModel" "BlockLayerModel" "numbers" "I" : Cond) ∈ G := gmk 768 (by decide +kernel) (by decide +kernel)
theorem gm732 : (.lays "BlockLayerModel" "BlockLayerModel" "queue" "I" : Cond) ∈ G := gmk 770 (by decide +kernel) (by decide +kernel)
theorem gm734 : (.laysFinal "BlockLayerModel" "BlockLayerModel" "number" "[I" : Cond) ∈ G := gmk 772 (by decide +kernel) (by decide +kernel)
theorem gm736 : (.laysFinal "BlockLayerModel" "BlockLayerModel" "kind" "[I" : Cond) ∈ G := gmk 774 (by decide +kernel) (by decide +kernel)
theorem gm738 : (.laysFinal "BlockLayerModel" "BlockLayerModel" "block" "[I" : Cond) ∈ G := gmk 776 (by decide +kernel) (by decide +kernel)
theorem gm740 : (.laysFinal "BlockLayerModel" "BlockLayerModel" "value" "[I" : Cond) ∈ G := gmk 778 (by decide +kernel) (by decide +kernel)
theorem gm742 : (.laysFinal "BlockLayerModel" "BlockLayerModel" "made" "[I" : Cond) ∈ G := gmk 780 (by decide +kernel) (by decide +kernel)
theorem gm744 : (.lays "BlockLayerModel" "BlockLayerModel" "cached" "I" : Cond) ∈ G := gmk 782 (by decide +kernel) (by decide +kernel)
theorem gm746 : (.laysFinal "BlockLayerModel" "BlockLayerModel" "cacheBlock" "[I" : Cond) ∈ G := gmk 784 (by decide +kernel) (by decide +kernel)
theorem gm748 : (.laysFinal "BlockLayerModel" "BlockLayerModel" "cacheValue" "[I" : Cond) ∈ G := gmk 786 (by decide +kernel) (by decide +kernel)
theorem gm750 : (.lays "BlockLayerModel" "BlockLayerModel" "head" "I" : Cond) ∈ G := gmk 788 (by decide +kernel) (by decide +kernel)
theorem gm752 : (.lays "BlockLayerModel" "BlockLayerModel" "up" "Z" : Cond) ∈ G := gmk 790 (by decide +kernel) (by decide +kernel)
theorem gm754 : (.lays "BlockLayerModel" "BlockLayerModel" "serves" "Z" : Cond) ∈ G := gmk 792 (by decide +kernel) (by decide +kernel)
theorem gm756 : (.lays "BlockLayerModel" "BlockLayerModel" "until" "I" : Cond) ∈ G := gmk 794 (by decide +kernel) (by decide +kernel)
theorem gm758 : (.lays "BlockLayerModel" "BlockLayerModel" "lastRead" "I" : Cond) ∈ G := gmk 796 (by decide +kernel) (by decide +kernel)
theorem gm760 : (.superclass "BlockLayerModel" "java/lang/Object" : Cond) ∈ G := gmk 798 (by decide +kernel) (by decide +kernel)
theorem gm761 : (.arrayClass FieldType.boolean : Cond) ∈ G := gmk 799 (by decide +kernel) (by decide +kernel)
theorem gm762 : (.methodLink "BlockLayerLaw" 52 y_MD_thrown : Cond) ∈ G := gmk 800 (by decide +kernel) (by decide +kernel)
theorem gm763 : (.instanceMethod y_MD_thrown : Cond) ∈ G := gmk 801 (by decide +kernel) (by decide +kernel)
theorem gm764 : (.selects "BlockLayerModel" y_MD_thrown y_MD_thrown : Cond) ∈ G := gmk 802 (by decide +kernel) (by decide +kernel)
theorem gm765 : (.code y_MD_thrown prog_8_method_2_code 1 (some FieldType.int) : Cond) ∈ G := gmk 803 (by decide +kernel) (by decide +kernel)
theorem gm766 : (.methodLink "BlockLayerLaw" 51 y_MD_load : Cond) ∈ G := gmk 804 (by decide +kernel) (by decide +kernel)
theorem gm767 : (.instanceMethod y_MD_load : Cond) ∈ G := gmk 805 (by decide +kernel) (by decide +kernel)
theorem gm768 : (.selects "BlockLayerModel" y_MD_load y_MD_load : Cond) ∈ G := gmk 806 (by decide +kernel) (by decide +kernel)
theorem gm769 : (.code y_MD_load prog_8_method_20_code 5 (some FieldType.int) : Cond) ∈ G := gmk 807 (by decide +kernel) (by decide +kernel)
theorem gm770 : (.methodLink "BlockLayerModel" 131 y_MD_isBlock : Cond) ∈ G := gmk 808 (by decide +kernel) (by decide +kernel)
theorem gm771 : (.static y_MD_isBlock : Cond) ∈ G := gmk 809 (by decide +kernel) (by decide +kernel)
theorem gm772 : (.code y_MD_isBlock prog_8_method_3_code 1 (some FieldType.boolean) : Cond) ∈ G := gmk 810 (by decide +kernel) (by decide +kernel)
theorem gm773 : (.methodLink "BlockLayerModel" 134 y_MD_bufferOf : Cond) ∈ G := gmk 811 (by decide +kernel) (by decide +kernel)
theorem gm775 : (.instanceMethod y_MD_bufferOf : Cond) ∈ G := gmk 813 (by decide +kernel) (by decide +kernel)
theorem gm776 : (.code y_MD_bufferOf prog_8_method_4_code 4 (some FieldType.int) : Cond) ∈ G := gmk 814 (by decide +kernel) (by decide +kernel)
theorem gm777 : (.methodLink "BlockLayerModel" 58 y_MD_closeUp : Cond) ∈ G := gmk 815 (by decide +kernel) (by decide +kernel)
theorem gm779 : (.instanceMethod y_MD_closeUp : Cond) ∈ G := gmk 817 (by decide +kernel) (by decide +kernel)
theorem gm780 : (.code y_MD_closeUp prog_8_method_5_code 3 none : Cond) ∈ G := gmk 818 (by decide +kernel) (by decide +kernel)
theorem gm781 : (.methodLink "BlockLayerModel" 140 y_MD_putLast : Cond) ∈ G := gmk 819 (by decide +kernel) (by decide +kernel)
theorem gm783 : (.instanceMethod y_MD_putLast : Cond) ∈ G := gmk 821 (by decide +kernel) (by decide +kernel)
theorem gm784 : (.code y_MD_putLast prog_8_method_6_code 4 none : Cond) ∈ G := gmk 822 (by decide +kernel) (by decide +kernel)
theorem gm785 : (.methodLink "BlockLayerModel" 147 y_MD_makeRoom : Cond) ∈ G := gmk 823 (by decide +kernel) (by decide +kernel)
theorem gm787 : (.instanceMethod y_MD_makeRoom : Cond) ∈ G := gmk 825 (by decide +kernel) (by decide +kernel)
theorem gm788 : (.code y_MD_makeRoom prog_8_method_7_code 4 none : Cond) ∈ G := gmk 826 (by decide +kernel) (by decide +kernel)
theorem gm789 : (.methodLink "BlockLayerModel" 65 y_MD_ask : Cond) ∈ G := gmk 827 (by decide +kernel) (by decide +kernel)
theorem gm791 : (.instanceMethod y_MD_ask : Cond) ∈ G := gmk 829 (by decide +kernel) (by decide +kernel)
theorem gm792 : (.code y_MD_ask prog_8_method_8_code 6 none : Cond) ∈ G := gmk 830 (by decide +kernel) (by decide +kernel)
theorem gm793 : (.methodLink "BlockLayerModel" 150 y_MD_beginOne : Cond) ∈ G := gmk 831 (by decide +kernel) (by decide +kernel)
theorem gm795 : (.instanceMethod y_MD_beginOne : Cond) ∈ G := gmk 833 (by decide +kernel) (by decide +kernel)
theorem gm796 : (.code y_MD_beginOne prog_8_method_16_code 3 none : Cond) ∈ G := gmk 834 (by decide +kernel) (by decide +kernel)
theorem gm797 : (.methodLink "BlockLayerModel" 103 y_MD_chosen : Cond) ∈ G := gmk 835 (by decide +kernel) (by decide +kernel)
theorem gm799 : (.instanceMethod y_MD_chosen : Cond) ∈ G := gmk 837 (by decide +kernel) (by decide +kernel)
theorem gm800 : (.code y_MD_chosen prog_8_method_14_code 2 (some FieldType.int) : Cond) ∈ G := gmk 838 (by decide +kernel) (by decide +kernel)
theorem gm801 : (.methodLink "BlockLayerModel" 96 y_MD_nearest : Cond) ∈ G := gmk 839 (by decide +kernel) (by decide +kernel)
theorem gm803 : (.instanceMethod y_MD_nearest : Cond) ∈ G := gmk 841 (by decide +kernel) (by decide +kernel)
theorem gm804 : (.code y_MD_nearest prog_8_method_12_code 5 (some FieldType.int) : Cond) ∈ G := gmk 842 (by decide +kernel) (by decide +kernel)
theorem gm805 : (.methodLink "BlockLayerModel" 88 y_MD_isReady : Cond) ∈ G := gmk 843 (by decide +kernel) (by decide +kernel)
theorem gm807 : (.instanceMethod y_MD_isReady : Cond) ∈ G := gmk 845 (by decide +kernel) (by decide +kernel)
theorem gm808 : (.code y_MD_isReady prog_8_method_9_code 4 (some FieldType.boolean) : Cond) ∈ G := gmk 846 (by decide +kernel) (by decide +kernel)
theorem gm809 : (.methodLink "BlockLayerModel" 92 y_MD_distance : Cond) ∈ G := gmk 847 (by decide +kernel) (by decide +kernel)
theorem gm811 : (.instanceMethod y_MD_distance : Cond) ∈ G := gmk 849 (by decide +kernel) (by decide +kernel)
theorem gm812 : (.code y_MD_distance prog_8_method_11_code 4 (some FieldType.int) : Cond) ∈ G := gmk 850 (by decide +kernel) (by decide +kernel)
theorem gm813 : (.methodLink "BlockLayerModel" 81 y_MD_track : Cond) ∈ G := gmk 851 (by decide +kernel) (by decide +kernel)
theorem gm815 : (.instanceMethod y_MD_track : Cond) ∈ G := gmk 853 (by decide +kernel) (by decide +kernel)
theorem gm816 : (.code y_MD_track prog_8_method_10_code 2 (some FieldType.int) : Cond) ∈ G := gmk 854 (by decide +kernel) (by decide +kernel)
theorem gm817 : (.methodLink "BlockLayerModel" 99 y_MD_lowest : Cond) ∈ G := gmk 855 (by decide +kernel) (by decide +kernel)
theorem gm819 : (.instanceMethod y_MD_lowest : Cond) ∈ G := gmk 857 (by decide +kernel) (by decide +kernel)
theorem gm820 : (.code y_MD_lowest prog_8_method_13_code 3 (some FieldType.int) : Cond) ∈ G := gmk 858 (by decide +kernel) (by decide +kernel)
theorem gm821 : (.methodLink "BlockLayerModel" 106 y_MD_copyRequest : Cond) ∈ G := gmk 859 (by decide +kernel) (by decide +kernel)
theorem gm823 : (.instanceMethod y_MD_copyRequest : Cond) ∈ G := gmk 861 (by decide +kernel) (by decide +kernel)
theorem gm824 : (.code y_MD_copyRequest prog_8_method_15_code 3 none : Cond) ∈ G := gmk 862 (by decide +kernel) (by decide +kernel)
theorem gm825 : (.methodLink "BlockLayerModel" 153 y_MD_endOne : Cond) ∈ G := gmk 863 (by decide +kernel) (by decide +kernel)
theorem gm827 : (.instanceMethod y_MD_endOne : Cond) ∈ G := gmk 865 (by decide +kernel) (by decide +kernel)
theorem gm828 : (.code y_MD_endOne prog_8_method_19_code 2 none : Cond) ∈ G := gmk 866 (by decide +kernel) (by decide +kernel)
theorem gm829 : (.methodLink "BlockLayerModel" 122 y_MD_valueAt : Cond) ∈ G := gmk 867 (by decide +kernel) (by decide +kernel)
theorem gm831 : (.instanceMethod y_MD_valueAt : Cond) ∈ G := gmk 869 (by decide +kernel) (by decide +kernel)
theorem gm832 : (.code y_MD_valueAt prog_8_method_17_code 4 (some FieldType.int) : Cond) ∈ G := gmk 870 (by decide +kernel) (by decide +kernel)
theorem gm833 : (.methodLink "BlockLayerModel" 128 y_MD_cache : Cond) ∈ G := gmk 871 (by decide +kernel) (by decide +kernel)
theorem gm835 : (.instanceMethod y_MD_cache : Cond) ∈ G := gmk 873 (by decide +kernel) (by decide +kernel)
theorem gm836 : (.code y_MD_cache prog_8_method_18_code 5 none : Cond) ∈ G := gmk 874 (by decide +kernel) (by decide +kernel)
theorem gm837 : (.methodLink "BlockLayerLaw" 58 y_MD_save : Cond) ∈ G := gmk 875 (by decide +kernel) (by decide +kernel)
theorem gm838 : (.instanceMethod y_MD_save : Cond) ∈ G := gmk 876 (by decide +kernel) (by decide +kernel)
theorem gm839 : (.selects "BlockLayerModel" y_MD_save y_MD_save : Cond) ∈ G := gmk 877 (by decide +kernel) (by decide +kernel)
theorem gm840 : (.code y_MD_save prog_8_method_21_code 5 (some FieldType.int) : Cond) ∈ G := gmk 878 (by decide +kernel) (by decide +kernel)
theorem gm841 : (.methodLink "BlockLayerLaw" 62 y_MD_sync : Cond) ∈ G := gmk 879 (by decide +kernel) (by decide +kernel)
theorem gm842 : (.instanceMethod y_MD_sync : Cond) ∈ G := gmk 880 (by decide +kernel) (by decide +kernel)
theorem gm843 : (.selects "BlockLayerModel" y_MD_sync y_MD_sync : Cond) ∈ G := gmk 881 (by decide +kernel) (by decide +kernel)
theorem gm844 : (.code y_MD_sync prog_8_method_22_code 4 (some FieldType.int) : Cond) ∈ G := gmk 882 (by decide +kernel) (by decide +kernel)
theorem gm845 : (.methodLink "BlockLayerLaw" 65 y_MD_step : Cond) ∈ G := gmk 883 (by decide +kernel) (by decide +kernel)
theorem gm846 : (.instanceMethod y_MD_step : Cond) ∈ G := gmk 884 (by decide +kernel) (by decide +kernel)
theorem gm847 : (.selects "BlockLayerModel" y_MD_step y_MD_step : Cond) ∈ G := gmk 885 (by decide +kernel) (by decide +kernel)
theorem gm848 : (.code y_MD_step prog_8_method_23_code 3 (some FieldType.int) : Cond) ∈ G := gmk 886 (by decide +kernel) (by decide +kernel)
theorem gm849 : (.methodLink "BlockLayerLaw" 69 y_MD_drain : Cond) ∈ G := gmk 887 (by decide +kernel) (by decide +kernel)
theorem gm850 : (.instanceMethod y_MD_drain : Cond) ∈ G := gmk 888 (by decide +kernel) (by decide +kernel)
theorem gm851 : (.selects "BlockLayerModel" y_MD_drain y_MD_drain : Cond) ∈ G := gmk 889 (by decide +kernel) (by decide +kernel)
theorem gm852 : (.code y_MD_drain prog_8_method_24_code 2 (some FieldType.int) : Cond) ∈ G := gmk 890 (by decide +kernel) (by decide +kernel)
theorem gm853 : (.methodLink "BlockLayerLaw" 72 y_MD_policy : Cond) ∈ G := gmk 891 (by decide +kernel) (by decide +kernel)
theorem gm854 : (.instanceMethod y_MD_policy : Cond) ∈ G := gmk 892 (by decide +kernel) (by decide +kernel)
theorem gm855 : (.selects "BlockLayerModel" y_MD_policy y_MD_policy : Cond) ∈ G := gmk 893 (by decide +kernel) (by decide +kernel)
theorem gm856 : (.code y_MD_policy prog_8_method_25_code 3 (some FieldType.int) : Cond) ∈ G := gmk 894 (by decide +kernel) (by decide +kernel)
theorem gm857 : (.methodLink "BlockLayerLaw" 76 y_MD_crash : Cond) ∈ G := gmk 895 (by decide +kernel) (by decide +kernel)
theorem gm858 : (.instanceMethod y_MD_crash : Cond) ∈ G := gmk 896 (by decide +kernel) (by decide +kernel)
theorem gm859 : (.selects "BlockLayerModel" y_MD_crash y_MD_crash : Cond) ∈ G := gmk 897 (by decide +kernel) (by decide +kernel)
theorem gm860 : (.code y_MD_crash prog_8_method_27_code 3 (some FieldType.int) : Cond) ∈ G := gmk 898 (by decide +kernel) (by decide +kernel)
theorem gm861 : (.methodLink "BlockLayerModel" 159 y_MD_newestOf : Cond) ∈ G := gmk 899 (by decide +kernel) (by decide +kernel)
theorem gm863 : (.instanceMethod y_MD_newestOf : Cond) ∈ G := gmk 901 (by decide +kernel) (by decide +kernel)
theorem gm864 : (.code y_MD_newestOf prog_8_method_26_code 4 (some FieldType.int) : Cond) ∈ G := gmk 902 (by decide +kernel) (by decide +kernel)
theorem gm865 : (.methodLink "BlockLayerLaw" 79 y_MD_newest : Cond) ∈ G := gmk 903 (by decide +kernel) (by decide +kernel)
theorem gm866 : (.instanceMethod y_MD_newest : Cond) ∈ G := gmk 904 (by decide +kernel) (by decide +kernel)
theorem gm867 : (.selects "BlockLayerModel" y_MD_newest y_MD_newest : Cond) ∈ G := gmk 905 (by decide +kernel) (by decide +kernel)
theorem gm868 : (.code y_MD_newest prog_8_method_28_code 2 (some FieldType.int) : Cond) ∈ G := gmk 906 (by decide +kernel) (by decide +kernel)
theorem gm869 : (.methodLink "BlockLayerLaw" 82 y_MD_media : Cond) ∈ G := gmk 907 (by decide +kernel) (by decide +kernel)
theorem gm870 : (.instanceMethod y_MD_media : Cond) ∈ G := gmk 908 (by decide +kernel) (by decide +kernel)
theorem gm871 : (.selects "BlockLayerModel" y_MD_media y_MD_media : Cond) ∈ G := gmk 909 (by decide +kernel) (by decide +kernel)
theorem gm872 : (.code y_MD_media prog_8_method_29_code 2 (some FieldType.int) : Cond) ∈ G := gmk 910 (by decide +kernel) (by decide +kernel)
theorem gm873 : (.methodLink "BlockLayerLaw" 85 y_MD_buffer : Cond) ∈ G := gmk 911 (by decide +kernel) (by decide +kernel)
theorem gm874 : (.instanceMethod y_MD_buffer : Cond) ∈ G := gmk 912 (by decide +kernel) (by decide +kernel)
theorem gm875 : (.selects "BlockLayerModel" y_MD_buffer y_MD_buffer : Cond) ∈ G := gmk 913 (by decide +kernel) (by decide +kernel)
theorem gm876 : (.code y_MD_buffer prog_8_method_30_code 3 (some FieldType.int) : Cond) ∈ G := gmk 914 (by decide +kernel) (by decide +kernel)
theorem gm877 : (.methodLink "BlockLayerLaw" 89 y_MD_used : Cond) ∈ G := gmk 915 (by decide +kernel) (by decide +kernel)
theorem gm878 : (.instanceMethod y_MD_used : Cond) ∈ G := gmk 916 (by decide +kernel) (by decide +kernel)
theorem gm879 : (.selects "BlockLayerModel" y_MD_used y_MD_used : Cond) ∈ G := gmk 917 (by decide +kernel) (by decide +kernel)
theorem gm880 : (.code y_MD_used prog_8_method_31_code 2 (some FieldType.int) : Cond) ∈ G := gmk 918 (by decide +kernel) (by decide +kernel)
theorem gm881 : (.methodLink "BlockLayerLaw" 93 y_MD_queued : Cond) ∈ G := gmk 919 (by decide +kernel) (by decide +kernel)
theorem gm882 : (.instanceMethod y_MD_queued : Cond) ∈ G := gmk 920 (by decide +kernel) (by decide +kernel)
theorem gm883 : (.selects "BlockLayerModel" y_MD_queued y_MD_queued : Cond) ∈ G := gmk 921 (by decide +kernel) (by decide +kernel)
theorem gm884 : (.code y_MD_queued prog_8_method_32_code 2 (some FieldType.int) : Cond) ∈ G := gmk 922 (by decide +kernel) (by decide +kernel)
theorem gm885 : (.methodLink "BlockLayerLaw" 97 y_MD_request : Cond) ∈ G := gmk 923 (by decide +kernel) (by decide +kernel)
theorem gm886 : (.instanceMethod y_MD_request : Cond) ∈ G := gmk 924 (by decide +kernel) (by decide +kernel)
theorem gm887 : (.selects "BlockLayerModel" y_MD_request y_MD_request : Cond) ∈ G := gmk 925 (by decide +kernel) (by decide +kernel)
theorem gm888 : (.code y_MD_request prog_8_method_33_code 5 (some FieldType.int) : Cond) ∈ G := gmk 926 (by decide +kernel) (by decide +kernel)
theorem gm889 : (.methodLink "BlockLayerLaw" 101 y_MD_told : Cond) ∈ G := gmk 927 (by decide +kernel) (by decide +kernel)
theorem gm890 : (.instanceMethod y_MD_told : Cond) ∈ G := gmk 928 (by decide +kernel) (by decide +kernel)
theorem gm891 : (.selects "BlockLayerModel" y_MD_told y_MD_told : Cond) ∈ G := gmk 929 (by decide +kernel) (by decide +kernel)
theorem gm892 : (.code y_MD_told prog_8_method_34_code 2 (some FieldType.int) : Cond) ∈ G := gmk 930 (by decide +kernel) (by decide +kernel)
theorem gm893 : (.arrayClass FieldType.long : Cond) ∈ G := gmk 931 (by decide +kernel) (by decide +kernel)
theorem gm894 : (.sameMethod "java/lang/Throwable" "java/lang/Throwable" "fillInStackTrace" "(I)Ljava/lang/Throwable;" : Cond) ∈ G := gmk 932 (by decide +kernel) (by decide +kernel)
theorem gm897 : (.sameMethod "[Ljava/lang/Object;" "java/lang/Object" "getClass" "()Ljava/lang/Class;" : Cond) ∈ G := gmk 935 (by decide +kernel) (by decide +kernel)
theorem gm898 : (.selects "[Ljava/lang/Object;" ⟨"java/lang/Object", "getClass", "()Ljava/lang/Class;"⟩ ⟨"java/lang/Object", "getClass", "()Ljava/lang/Class;"⟩ : Cond) ∈ G := gmk 936 (by decide +kernel) (by decide +kernel)
theorem gs_DK_beginIfIdle : (.selects y_DK_beginIfIdle.cls y_DK_beginIfIdle y_DK_beginIfIdle : Cond) ∈ G := gmk 0 (by decide +kernel) (by decide +kernel)
theorem gs_DK_chosenPlace : (.selects y_DK_chosenPlace.cls y_DK_chosenPlace y_DK_chosenPlace : Cond) ∈ G := gmk 1 (by decide +kernel) (by decide +kernel)
theorem gs_DK_isOldUnderPolicy : (.selects y_DK_isOldUnderPolicy.cls y_DK_isOldUnderPolicy y_DK_isOldUnderPolicy : Cond) ∈ G := gmk 2 (by decide +kernel) (by decide +kernel)
theorem gs_DK_sideOfPolicy : (.selects y_DK_sideOfPolicy.cls y_DK_sideOfPolicy y_DK_sideOfPolicy : Cond) ∈ G := gmk 3 (by decide +kernel) (by decide +kernel)
theorem gs_DK_nearestPlace : (.selects y_DK_nearestPlace.cls y_DK_nearestPlace y_DK_nearestPlace : Cond) ∈ G := gmk 4 (by decide +kernel) (by decide +kernel)
theorem gs_DK_tracksAway : (.selects y_DK_tracksAway.cls y_DK_tracksAway y_DK_tracksAway : Cond) ∈ G := gmk 5 (by decide +kernel) (by decide +kernel)
theorem gs_AL_fastRemove : (.selects y_AL_fastRemove.cls y_AL_fastRemove y_AL_fastRemove : Cond) ∈ G := gmk 6 (by decide +kernel) (by decide +kernel)
theorem gs_DK_passUntilEnd : (.selects y_DK_passUntilEnd.cls y_DK_passUntilEnd y_DK_passUntilEnd : Cond) ∈ G := gmk 7 (by decide +kernel) (by decide +kernel)
theorem gs_DK_end : (.selects y_DK_end.cls y_DK_end y_DK_end : Cond) ∈ G := gmk 8 (by decide +kernel) (by decide +kernel)
theorem gs_DK_valueInside : (.selects y_DK_valueInside.cls y_DK_valueInside y_DK_valueInside : Cond) ∈ G := gmk 9 (by decide +kernel) (by decide +kernel)
theorem gs_AL_add1 : (.selects y_AL_add1.cls y_AL_add1 y_AL_add1 : Cond) ∈ G := gmk 10 (by decide +kernel) (by decide +kernel)
theorem gs_AL_grow0 : (.selects y_AL_grow0.cls y_AL_grow0 y_AL_grow0 : Cond) ∈ G := gmk 11 (by decide +kernel) (by decide +kernel)
theorem gs_AL_grow1 : (.selects y_AL_grow1.cls y_AL_grow1 y_AL_grow1 : Cond) ∈ G := gmk 12 (by decide +kernel) (by decide +kernel)
theorem gs_DK_moveToMedia : (.selects y_DK_moveToMedia.cls y_DK_moveToMedia y_DK_moveToMedia : Cond) ∈ G := gmk 13 (by decide +kernel) (by decide +kernel)
theorem gs_BL_newestOf : (.selects y_BL_newestOf.cls y_BL_newestOf y_BL_newestOf : Cond) ∈ G := gmk 14 (by decide +kernel) (by decide +kernel)
theorem gs_BL_liveRequest : (.selects y_BL_liveRequest.cls y_BL_liveRequest y_BL_liveRequest : Cond) ∈ G := gmk 15 (by decide +kernel) (by decide +kernel)
theorem gs_BL_requireQueueRoom : (.selects y_BL_requireQueueRoom.cls y_BL_requireQueueRoom y_BL_requireQueueRoom : Cond) ∈ G := gmk 17 (by decide +kernel) (by decide +kernel)
theorem gs_BL_makeBufferRoom : (.selects y_BL_makeBufferRoom.cls y_BL_makeBufferRoom y_BL_makeBufferRoom : Cond) ∈ G := gmk 18 (by decide +kernel) (by decide +kernel)
theorem gs_BL_writeBack : (.selects y_BL_writeBack.cls y_BL_writeBack y_BL_writeBack : Cond) ∈ G := gmk 19 (by decide +kernel) (by decide +kernel)
theorem gs_BL_makeRequest : (.selects y_BL_makeRequest.cls y_BL_makeRequest y_BL_makeRequest : Cond) ∈ G := gmk 20 (by decide +kernel) (by decide +kernel)
theorem gs_MD_bufferOf : (.selects y_MD_bufferOf.cls y_MD_bufferOf y_MD_bufferOf : Cond) ∈ G := gmk 21 (by decide +kernel) (by decide +kernel)
theorem gs_MD_closeUp : (.selects y_MD_closeUp.cls y_MD_closeUp y_MD_closeUp : Cond) ∈ G := gmk 22 (by decide +kernel) (by decide +kernel)
theorem gs_MD_putLast : (.selects y_MD_putLast.cls y_MD_putLast y_MD_putLast : Cond) ∈ G := gmk 23 (by decide +kernel) (by decide +kernel)
theorem gs_MD_makeRoom : (.selects y_MD_makeRoom.cls y_MD_makeRoom y_MD_makeRoom : Cond) ∈ G := gmk 24 (by decide +kernel) (by decide +kernel)
theorem gs_MD_ask : (.selects y_MD_ask.cls y_MD_ask y_MD_ask : Cond) ∈ G := gmk 25 (by decide +kernel) (by decide +kernel)
theorem gs_MD_beginOne : (.selects y_MD_beginOne.cls y_MD_beginOne y_MD_beginOne : Cond) ∈ G := gmk 26 (by decide +kernel) (by decide +kernel)
theorem gs_MD_chosen : (.selects y_MD_chosen.cls y_MD_chosen y_MD_chosen : Cond) ∈ G := gmk 27 (by decide +kernel) (by decide +kernel)
theorem gs_MD_nearest : (.selects y_MD_nearest.cls y_MD_nearest y_MD_nearest : Cond) ∈ G := gmk 28 (by decide +kernel) (by decide +kernel)
theorem gs_MD_isReady : (.selects y_MD_isReady.cls y_MD_isReady y_MD_isReady : Cond) ∈ G := gmk 29 (by decide +kernel) (by decide +kernel)
theorem gs_MD_distance : (.selects y_MD_distance.cls y_MD_distance y_MD_distance : Cond) ∈ G := gmk 30 (by decide +kernel) (by decide +kernel)
theorem gs_MD_track : (.selects y_MD_track.cls y_MD_track y_MD_track : Cond) ∈ G := gmk 31 (by decide +kernel) (by decide +kernel)
theorem gs_MD_lowest : (.selects y_MD_lowest.cls y_MD_lowest y_MD_lowest : Cond) ∈ G := gmk 32 (by decide +kernel) (by decide +kernel)
theorem gs_MD_copyRequest : (.selects y_MD_copyRequest.cls y_MD_copyRequest y_MD_copyRequest : Cond) ∈ G := gmk 33 (by decide +kernel) (by decide +kernel)
theorem gs_MD_endOne : (.selects y_MD_endOne.cls y_MD_endOne y_MD_endOne : Cond) ∈ G := gmk 34 (by decide +kernel) (by decide +kernel)
theorem gs_MD_valueAt : (.selects y_MD_valueAt.cls y_MD_valueAt y_MD_valueAt : Cond) ∈ G := gmk 35 (by decide +kernel) (by decide +kernel)
theorem gs_MD_cache : (.selects y_MD_cache.cls y_MD_cache y_MD_cache : Cond) ∈ G := gmk 36 (by decide +kernel) (by decide +kernel)
theorem gs_MD_newestOf : (.selects y_MD_newestOf.cls y_MD_newestOf y_MD_newestOf : Cond) ∈ G := gmk 37 (by decide +kernel) (by decide +kernel)
end
section
/-! THE WORLD AS A FUNCTION: what cell lies at an address. It is held by a list of cells as the kit has them; every row here is a row of the kit, read through that list. -/
abbrev fh_H : Type := Nat → Option va_E
def fh_V (w : va_W) (h : fh_H) : Prop := ∀ (a : Nat) (e : va_E), h a = some e ↔ ∃ k : Nat, w[k]? = some (a, e)
def fh_P (D : va_G) (cl : List vw_C) (A : Nat → Prop) (h : fh_H) (H : Heap) : Prop := ∃ w : va_W, va_P D cl w H ∧ va_D A w ∧ fh_V w h
/-- what a method may change: the cells of its world, and those that it makes -/
def fh_A (h : fh_H) (sz : Nat) : Nat → Prop := fun q => (∃ e, h q = some e) ∨ sz ≤ q
theorem fh_V.set {A : Nat → Prop} {w : va_W} {h : fh_H} {a k : Nat} {e e' : va_E} (hD : va_D A w) (hV : fh_V w h) (hk : w[k]? = some (a, e)) : fh_V (w.set k (a, e')) (va_up h a (some e')) := by
  have hl := (List.getElem?_eq_some_iff.mp hk).1
  intro b x
  constructor
  · intro hb
    by_cases c : b = a
    · subst c
      rw [va_up_self] at hb
      cases hb
      exact ⟨k, List.getElem?_set_self hl⟩
    · rw [va_up_ne _ _ c] at hb
      obtain ⟨j, hj⟩ := (hV b x).mp hb
      have hjk : j ≠ k := by
        intro z
        rw [z, hk] at hj
        exact c (congrArg Prod.fst (Option.some.inj hj)).symm
      exact ⟨j, by rw [List.getElem?_set_ne (Ne.symm hjk)]; exact hj⟩
  · intro ⟨j, hj⟩
    by_cases c : j = k
    · rw [c, List.getElem?_set_self hl] at hj
      cases hj
      exact va_up_self _ _ _
    · rw [List.getElem?_set_ne (Ne.symm c)] at hj
      have hba : b ≠ a := fun z => c (hD.1 j k (b, x) (a, e) hj hk z)
      rw [va_up_ne _ _ hba]
      exact (hV b x).mpr ⟨j, hj⟩
theorem fh_V.push {A : Nat → Prop} {w : va_W} {h : fh_H} {q : Nat} {e : va_E} (hD : va_D A (w ++ [(q, e)])) (hV : fh_V w h) : fh_V (w ++ [(q, e)]) (va_up h q (some e)) ∧ h q = none := by
  have hlast : (w ++ [(q, e)])[w.length]? = some (q, e) := by simp
  have hold : ∀ (j : Nat) (x : Nat × va_E), w[j]? = some x → (w ++ [(q, e)])[j]? = some x := fun j x hj => by
    rw [List.getElem?_append_left (List.getElem?_eq_some_iff.mp hj).1]; exact hj
  have hnew : ∀ (j : Nat) (x : va_E), w[j]? = some (q, x) → False := fun j x hj => by
    have hl := (List.getElem?_eq_some_iff.mp hj).1
    have := hD.1 j w.length _ _ (hold j _ hj) hlast rfl
    omega
  refine ⟨fun b x => ⟨fun hb => ?_, fun ⟨j, hj⟩ => ?_⟩, ?_⟩
  · by_cases c : b = q
    · subst c
      rw [va_up_self] at hb
      cases hb
      exact ⟨_, hlast⟩
    · rw [va_up_ne _ _ c] at hb
      obtain ⟨j, hj⟩ := (hV b x).mp hb
      exact ⟨j, hold j _ hj⟩
  · by_cases c : j < w.length
    · rw [List.getElem?_append_left c] at hj
      have hbq : b ≠ q := fun z => hnew j x (by rw [← z]; exact hj)
      rw [va_up_ne _ _ hbq]
      exact (hV b x).mpr ⟨j, hj⟩
    · rw [List.getElem?_append_right (by omega)] at hj
      have hz : j - w.length < 1 := (List.getElem?_eq_some_iff.mp hj).1
      have hj0 : j - w.length = 0 := by omega
      rw [hj0] at hj
      cases hj
      exact va_up_self _ _ _
  · cases hq : h q with
    | none => rfl
    | some x =>
      obtain ⟨j, hj⟩ := (hV q x).mp hq
      exact (hnew j x hj).elim
section FHP
variable {D : va_G} {cl : List vw_C} {A B : Nat → Prop} {h : fh_H} {H H1 : Heap} {a : Nat} {e : va_E}
theorem fh_P.get (hP : fh_P D cl A h H) (ha : h a = some e) : va_at D cl (a, e) H ∧ A a := by
  obtain ⟨w, h1, h2, h3⟩ := hP
  obtain ⟨k, hk⟩ := (h3 a e).mp ha
  exact ⟨h1 k _ hk, h2.2 k _ hk⟩
theorem fh_P.lt (hP : fh_P D cl A h H) (ha : h a = some e) : a < H.size := (hP.get ha).1.lt
theorem fh_P.weaken (hP : fh_P D cl A h H) (hAB : ∀ q, (∃ e, h q = some e) → A q → B q) : fh_P D cl B h H := by
  obtain ⟨w, h1, h2, h3⟩ := hP
  exact ⟨w, h1, h2.weaken (fun k q hk hq => hAB q.1 ⟨q.2, (h3 q.1 q.2).mpr ⟨k, hk⟩⟩ hq), h3⟩
theorem fh_P.kept (hP : fh_P D cl A h H) (hq : ∀ q : Nat, (∃ e, h q = some e) → H1[q]? = H[q]?) : fh_P D cl A h H1 := by
  obtain ⟨w, h1, h2, h3⟩ := hP
  exact ⟨w, h1.kept (fun k q hk => hq q.1 ⟨q.2, (h3 q.1 q.2).mpr ⟨k, hk⟩⟩), h2, h3⟩
theorem fh_P.self (sz : Nat) (hP : fh_P D cl A h H) : fh_P D cl (fh_A h sz) h H := hP.weaken (fun _ hq _ => Or.inl hq)
theorem fh_ne {i j : Nat} {fs gs : List Value} {b : Nat} (ha : h a = some (.inr (i, fs))) (hb : h b = some (.inr (j, gs))) (hij : i ≠ j) : a ≠ b := by
  intro z
  rw [z, hb] at ha
  cases ha
  exact hij rfl
theorem fh_neA {j : Nat} {x : ClassId × vp_A} {gs : List Value} {b : Nat} (ha : h a = some (.inl x)) (hb : h b = some (.inr (j, gs))) : a ≠ b := by
  intro z
  rw [z, hb] at ha
  cases ha
theorem fh_neF {b : Nat} {x : va_E} (ha : h a = some x) (hb : h b = none) : a ≠ b := by
  intro z
  rw [z, hb] at ha
  cases ha
theorem fh_up {b : Nat} {x : Option va_E} {y : va_E} (hb : h b = some y) (hne : b ≠ a) : va_up h a x b = some y := by
  rw [va_up_ne _ _ hne]; exact hb
end FHP
section FHR
variable {p : Program} {l : Launch} {e : Env} {R : Room} {s : State} {m : MethodId} {args : Array Value} {below : List Frame} {meth : Method} {c : Code} {H : Heap} {locs : List Loc} {cells slots : Nat} {Q : State → Prop}
variable {cc : ByteArray} {pc : Nat} {ls : Array Slot} {rest : List Value} {D : va_G} {cl : List vw_C} {A : Nat → Prop} {a : Nat} {tys : List (ClassId × FieldType)} {h : fh_H} {H0 : Heap}
/-- a class as the tables have it: its place, its fields' table -/
def fh_C (cl : List vw_C) (ci : Nat) (C : String) (T : u_T) (N : Nat) (ty : Nat → FieldType) : Prop := cl[ci]? = some (C, T, N) ∧ (∀ k, k < N → parseFieldDescriptor (T k).2.2.1 = some (ty k)) ∧ (∀ a, a < N → ∀ b, b < N → a ≠ b → (T a).2.1 ≠ (T b).2.1)
theorem fh_get (hexec : p.tables.exec = Jvm.exec) (hb : c.code = cc) {own C : String} {T : u_T} {N ci index : Nat} {ty : Nat → FieldType} {Ts : List Cond} (hts : ∀ w ∈ Ts, w.before args s = true) (hC : fh_C cl ci C T N ty) (hin : ∀ w ∈ u_ws C T N, w ∈ Ts) (hown : s.vm.findClass own = some m.cls) (hK : va_K D cl tys s) (hP : fh_P D cl A h H) {fs : List Value} (he : h a = some (.inr (ci, fs))) (k : Nat) (hk : k < N) (hlink : Cond.fieldLink own index (T k).1 (T k).2.1 (T k).2.2.1 ∈ Ts) {v : Value} (hv : fs[k]? = some v) (hdg : decode cc pc = .ok (.getfield index, 3))
    (kk : W p l e R s m args below meth c H locs cells slots Q (F0 m (pc + 3) ls (v :: rest))) : W p l e R s m args below meth c H locs cells slots Q (F0 m pc ls (.ref a :: rest)) := by
  obtain ⟨w, h1, h2, h3⟩ := hP
  obtain ⟨q0, hq⟩ := (h3 a _).mp he
  exact va_get hexec hb hts hin hown hK h1 q0 hq hC.1 k hk (hts _ hlink) (fun _ z => z) hv hdg kk
theorem fh_getN (hexec : p.tables.exec = Jvm.exec) (hb : c.code = cc) {own C host : String} {T : u_T} {N ci index : Nat} {ty : Nat → FieldType} {Ts : List Cond} (hts : ∀ w ∈ Ts, w.before args s = true) (hC : fh_C cl ci C T N ty) (hin : ∀ w ∈ u_ws C T N, w ∈ Ts) (hown : s.vm.findClass own = some m.cls) (hK : va_K D cl tys s) (hP : fh_P D cl A h H) {fs : List Value} (he : h a = some (.inr (ci, fs))) (k : Nat) (hk : k < N) (hlink : (Cond.fieldLinkNest own index (T k).1 (T k).2.1 (T k).2.2.1 host).before args s = true) {v : Value} (hv : fs[k]? = some v) (hdg : decode cc pc = .ok (.getfield index, 3))
    (kk : W p l e R s m args below meth c H locs cells slots Q (F0 m (pc + 3) ls (v :: rest))) : W p l e R s m args below meth c H locs cells slots Q (F0 m pc ls (.ref a :: rest)) := by
  obtain ⟨w, h1, h2, h3⟩ := hP
  obtain ⟨q0, hq⟩ := (h3 a _).mp he
  exact va_getN hexec hb hts hin hown hK h1 q0 hq hC.1 k hk hlink (fun _ z => z) hv hdg kk
theorem fh_put (hexec : p.tables.exec = Jvm.exec) (hb : c.code = cc) {own C : String} {T : u_T} {N ci index : Nat} {ty : Nat → FieldType} {Ts : List Cond} (hts : ∀ w ∈ Ts, w.before args s = true) (hC : fh_C cl ci C T N ty) (hin : ∀ w ∈ u_ws C T N, w ∈ Ts) (hown : s.vm.findClass own = some m.cls) (hK : va_K D cl tys s) (hP : fh_P D cl A h H) (hS : va_S A H0 H locs) {fs : List Value} (he : h a = some (.inr (ci, fs))) (k : Nat) (hk : k < N) (hlink : Cond.fieldLink own index (T k).1 (T k).2.1 (T k).2.2.1 ∈ Ts) (hfin : (T k).2.2.2 = false) {v : Value} (hn : narrow (ty k) v = v) (hfit : fits (ty k) v = true) (hl : k < fs.length) (hdg : decode cc pc = .ok (.putfield index, 3))
    (kk : ∀ (H1 : Heap) (locs1 : List Loc), fh_P D cl A (va_up h a (some (.inr (ci, fs.set k v)))) H1 → va_S A H0 H1 locs1 → W p l e R s m args below meth c H1 locs1 cells slots Q (F0 m (pc + 3) ls rest)) : W p l e R s m args below meth c H locs cells slots Q (F0 m pc ls (v :: .ref a :: rest)) := by
  obtain ⟨w, h1, h2, h3⟩ := hP
  obtain ⟨q0, hq⟩ := (h3 a _).mp he
  exact va_put hexec hb hts hin ty hC.2.1 hC.2.2 hown hK h1 h2 hS q0 hq hC.1 k hk (hts _ hlink) (fun _ z => z) hfin (hC.2.1 k hk) hn hfit hl hdg (fun H1 locs1 g1 g2 g3 => kk H1 locs1 ⟨_, g1, g2, h3.set h2 hq⟩ g3)
theorem fh_putN (hexec : p.tables.exec = Jvm.exec) (hb : c.code = cc) {own C host : String} {T : u_T} {N ci index : Nat} {ty : Nat → FieldType} {Ts : List Cond} (hts : ∀ w ∈ Ts, w.before args s = true) (hC : fh_C cl ci C T N ty) (hin : ∀ w ∈ u_ws C T N, w ∈ Ts) (hown : s.vm.findClass own = some m.cls) (hK : va_K D cl tys s) (hP : fh_P D cl A h H) (hS : va_S A H0 H locs) {fs : List Value} (he : h a = some (.inr (ci, fs))) (k : Nat) (hk : k < N) (hlink : (Cond.fieldLinkNest own index (T k).1 (T k).2.1 (T k).2.2.1 host).before args s = true) (hfin : (T k).2.2.2 = false) {v : Value} (hn : narrow (ty k) v = v) (hfit : fits (ty k) v = true) (hl : k < fs.length) (hdg : decode cc pc = .ok (.putfield index, 3))
    (kk : ∀ (H1 : Heap) (locs1 : List Loc), fh_P D cl A (va_up h a (some (.inr (ci, fs.set k v)))) H1 → va_S A H0 H1 locs1 → W p l e R s m args below meth c H1 locs1 cells slots Q (F0 m (pc + 3) ls rest)) : W p l e R s m args below meth c H locs cells slots Q (F0 m pc ls (v :: .ref a :: rest)) := by
  obtain ⟨w, h1, h2, h3⟩ := hP
  obtain ⟨q0, hq⟩ := (h3 a _).mp he
  exact va_putN hexec hb hts hin ty hC.2.1 hC.2.2 hown hK h1 h2 hS q0 hq hC.1 k hk hlink (fun _ z => z) hfin (hC.2.1 k hk) hn hfit hl hdg (fun H1 locs1 g1 g2 g3 => kk H1 locs1 ⟨_, g1, g2, h3.set h2 hq⟩ g3)
theorem fh_putF (hexec : p.tables.exec = Jvm.exec) (hb : c.code = cc) {own C : String} {T : u_T} {N ci index : Nat} {ty : Nat → FieldType} {Ts : List Cond} (hts : ∀ w ∈ Ts, w.before args s = true) (hC : fh_C cl ci C T N ty) (hin : ∀ w ∈ u_ws C T N, w ∈ Ts) (hown : s.vm.findClass own = some m.cls) (hK : va_K D cl tys s) (hP : fh_P D cl A h H) (hS : va_S A H0 H locs) {fs : List Value} (he : h a = some (.inr (ci, fs))) (k : Nat) (hk : k < N) (hlink : Cond.fieldLink own index (T k).1 (T k).2.1 (T k).2.2.1 ∈ Ts) (hfin : (T k).2.2.2 = true) (hin2 : meth.name = "<init>") (hdecl : (T k).1 = own) {v : Value} (hn : narrow (ty k) v = v) (hfit : fits (ty k) v = true) (hl : k < fs.length) (hdg : decode cc pc = .ok (.putfield index, 3))
    (kk : ∀ (H1 : Heap) (locs1 : List Loc), fh_P D cl A (va_up h a (some (.inr (ci, fs.set k v)))) H1 → va_S A H0 H1 locs1 → W p l e R s m args below meth c H1 locs1 cells slots Q (F0 m (pc + 3) ls rest)) : W p l e R s m args below meth c H locs cells slots Q (F0 m pc ls (v :: .ref a :: rest)) := by
  obtain ⟨w, h1, h2, h3⟩ := hP
  obtain ⟨q0, hq⟩ := (h3 a _).mp he
  exact va_putF hexec hb hts hin ty hC.2.1 hC.2.2 hown hK h1 h2 hS q0 hq hC.1 k hk (hts _ hlink) (fun _ z => z) hfin hin2 hdecl (hC.2.1 k hk) hn hfit hl hdg (fun H1 locs1 g1 g2 g3 => kk H1 locs1 ⟨_, g1, g2, h3.set h2 hq⟩ g3)
theorem fh_new (hexec : p.tables.exec = Jvm.exec) (hb : c.code = cc) {own C : String} {T : u_T} {N ci index : Nat} {ty : Nat → FieldType} {Ts : List Cond} (hts : ∀ w ∈ Ts, w.before args s = true) (hC : fh_C cl ci C T N ty) (hin : ∀ w ∈ u_ws C T N, w ∈ Ts) (hown : s.vm.findClass own = some m.cls) (hcl : Cond.classLink own index C ∈ Ts) (hinst : Cond.instantiable C N ∈ Ts) (hini : Cond.initialized C ∈ Ts)
    (hK : va_K D cl tys s) (hP : fh_P D cl A h H) (hS : va_S A H0 H locs) (hA : ∀ q, H0.size ≤ q → A q) {fs : List Value} (hfs : ∀ j, j < N → defaultValue (ty j) = vp_V fs j) (hcells : cells + 1 ≤ R.cells) (hslots : slots + N ≤ R.slots) (hdg : decode cc pc = .ok (.new index, 3))
    (kk : ∀ (q : Nat) (H1 : Heap), h q = none → fh_P D cl A (va_up h q (some (.inr (ci, fs)))) H1 → va_S A H0 H1 locs → W p l e R s m args below meth c H1 locs (cells + 1) (slots + N) Q (F0 m (pc + 3) ls (.ref q :: rest))) : W p l e R s m args below meth c H locs cells slots Q (F0 m pc ls rest) := by
  obtain ⟨w, h1, h2, h3⟩ := hP
  exact va_new hexec hb hts hin ty hC.2.1 hown (hts _ hcl) (hts _ hinst) (hts _ hini) hK h1 h2 hS hA hC.1 hfs hcells hslots hdg (fun q H1 g1 g2 g3 => kk q H1 (h3.push g2).2 ⟨_, g1, g2, (h3.push g2).1⟩ g3)
theorem fh_recv (hK : va_K D cl tys s) (hP : fh_P D cl A h H) {ci : Nat} {q : vw_C} (hc : cl[ci]? = some q) {fs : List Value} (he : h a = some (.inr (ci, fs))) : ∃ cell : Cell, H[a]? = some cell ∧ cell.vm.isStatics = false ∧ s.vm.findClass q.1 = some cell.cls := by
  obtain ⟨w, h1, h2, h3⟩ := hP
  obtain ⟨q0, hq⟩ := (h3 a _).mp he
  exact va_recv hK h1 hc hq
theorem fh_iald (hexec : p.tables.exec = Jvm.exec) (hb : c.code = cc) (hK : va_K D cl tys s) (hP : fh_P D cl A h H) (t0 : Nat) {cA : ClassId} {n : Nat} {f : Nat → Int32} (ha : h a = some (.inl (cA, n, .inl f))) (ht : tys[t0]? = some (cA, .int)) {i : Int32} (hin : vp_in i n) (hdg : decode cc pc = .ok (.iaload, 1))
    (kk : W p l e R s m args below meth c H locs cells slots Q (F0 m (pc + 1) ls (.int (f i.toNatClampNeg) :: rest))) : W p l e R s m args below meth c H locs cells slots Q (F0 m pc ls (.int i :: .ref a :: rest)) := by
  obtain ⟨w, h1, h2, h3⟩ := hP
  obtain ⟨q0, hq⟩ := (h3 a _).mp ha
  exact va_iald hexec hb hK h1 q0 t0 hq ht hin hdg kk
theorem fh_iast (hexec : p.tables.exec = Jvm.exec) (hb : c.code = cc) (hK : va_K D cl tys s) (hP : fh_P D cl A h H) (hS : va_S A H0 H locs) (t0 : Nat) {cA : ClassId} {n : Nat} {f : Nat → Int32} (ha : h a = some (.inl (cA, n, .inl f))) (ht : tys[t0]? = some (cA, .int)) {i x : Int32} (hin : vp_in i n) (hdg : decode cc pc = .ok (.iastore, 1))
    (kk : ∀ (H1 : Heap) (locs1 : List Loc), fh_P D cl A (va_up h a (some (.inl (cA, n, .inl (upd f i.toNatClampNeg x))))) H1 → va_S A H0 H1 locs1 → W p l e R s m args below meth c H1 locs1 cells slots Q (F0 m (pc + 1) ls rest)) : W p l e R s m args below meth c H locs cells slots Q (F0 m pc ls (.int x :: .int i :: .ref a :: rest)) := by
  obtain ⟨w, h1, h2, h3⟩ := hP
  obtain ⟨q0, hq⟩ := (h3 a _).mp ha
  exact va_iast hexec hb hK h1 h2 hS q0 t0 hq ht hin hdg (fun H1 locs1 g1 g2 g3 => kk H1 locs1 ⟨_, g1, g2, h3.set h2 hq⟩ g3)
theorem fh_lald (hexec : p.tables.exec = Jvm.exec) (hb : c.code = cc) (hK : va_K D cl tys s) (hP : fh_P D cl A h H) (t0 : Nat) {cA : ClassId} {n : Nat} {f : Nat → Int64} (ha : h a = some (.inl (cA, n, .inr (.inl f)))) (ht : tys[t0]? = some (cA, .long)) {i : Int32} (hin : vp_in i n) (hdg : decode cc pc = .ok (.laload, 1))
    (kk : W p l e R s m args below meth c H locs cells slots Q (F0 m (pc + 1) ls (.long (f i.toNatClampNeg) :: rest))) : W p l e R s m args below meth c H locs cells slots Q (F0 m pc ls (.int i :: .ref a :: rest)) := by
  obtain ⟨w, h1, h2, h3⟩ := hP
  obtain ⟨q0, hq⟩ := (h3 a _).mp ha
  exact va_lald hexec hb hK h1 q0 t0 hq ht hin hdg kk
theorem fh_last (hexec : p.tables.exec = Jvm.exec) (hb : c.code = cc) (hK : va_K D cl tys s) (hP : fh_P D cl A h H) (hS : va_S A H0 H locs) (t0 : Nat) {cA : ClassId} {n : Nat} {f : Nat → Int64} (ha : h a = some (.inl (cA, n, .inr (.inl f)))) (ht : tys[t0]? = some (cA, .long)) {i : Int32} {x : Int64} (hin : vp_in i n) (hdg : decode cc pc = .ok (.lastore, 1))
    (kk : ∀ (H1 : Heap) (locs1 : List Loc), fh_P D cl A (va_up h a (some (.inl (cA, n, .inr (.inl (vp_updL f i.toNatClampNeg x)))))) H1 → va_S A H0 H1 locs1 → W p l e R s m args below meth c H1 locs1 cells slots Q (F0 m (pc + 1) ls rest)) : W p l e R s m args below meth c H locs cells slots Q (F0 m pc ls (.long x :: .int i :: .ref a :: rest)) := by
  obtain ⟨w, h1, h2, h3⟩ := hP
  obtain ⟨q0, hq⟩ := (h3 a _).mp ha
  exact va_last hexec hb hK h1 h2 hS q0 t0 hq ht hin hdg (fun H1 locs1 g1 g2 g3 => kk H1 locs1 ⟨_, g1, g2, h3.set h2 hq⟩ g3)
theorem fh_alen (hexec : p.tables.exec = Jvm.exec) (hb : c.code = cc) (hK : va_K D cl tys s) (hP : fh_P D cl A h H) (t0 : Nat) {cA : ClassId} {x : vp_A} (ha : h a = some (.inl (cA, x))) {ty : FieldType} (ht : tys[t0]? = some (cA, ty)) {v : Int32} (hv : Int32.ofNat x.1 = v) (hdg : decode cc pc = .ok (.arraylength, 1))
    (kk : W p l e R s m args below meth c H locs cells slots Q (F0 m (pc + 1) ls (.int v :: rest))) : W p l e R s m args below meth c H locs cells slots Q (F0 m pc ls (.ref a :: rest)) := by
  obtain ⟨w, h1, h2, h3⟩ := hP
  obtain ⟨q0, hq⟩ := (h3 a _).mp ha
  exact va_alen hexec hb hK h1 q0 t0 hq ht hv hdg kk
theorem fh_aldq (hexec : p.tables.exec = Jvm.exec) (hb : c.code = cc) (hK : va_K D cl tys s) (hP : fh_P D cl A h H) (t0 : Nat) {cA : ClassId} {C : String} {n : Nat} {f : Nat → Option Nat} (ha : h a = some (.inl (cA, n, .inr (.inr (.inr (.inr f)))))) (ht : tys[t0]? = some (cA, .object C)) {i : Int32} (hin : vp_in i n) (hdg : decode cc pc = .ok (.aaload, 1))
    (kk : W p l e R s m args below meth c H locs cells slots Q (F0 m (pc + 1) ls (va_rf (f i.toNatClampNeg) :: rest))) : W p l e R s m args below meth c H locs cells slots Q (F0 m pc ls (.int i :: .ref a :: rest)) := by
  obtain ⟨w, h1, h2, h3⟩ := hP
  obtain ⟨q0, hq⟩ := (h3 a _).mp ha
  exact va_aldq hexec hb hK h1 q0 t0 hq ht hin hdg kk
theorem fh_astqO (hexec : p.tables.exec = Jvm.exec) (hb : c.code = cc) (hK : va_K D cl tys s) (hP : fh_P D cl A h H) (hS : va_S A H0 H locs) (t0 ci : Nat) {E : String} {cA : ClassId} {r : vw_C} {n v : Nat} {vs : List Value} {f : Nat → Option Nat} (ha : h a = some (.inl (cA, n, .inr (.inr (.inr (.inr f)))))) (ht : tys[t0]? = some (cA, .object E)) (hca : va_Nw (.castable r.1 E) s) (hv : h v = some (.inr (ci, vs))) (hc : cl[ci]? = some r) {i : Int32} (hin : vp_in i n) (hdg : decode cc pc = .ok (.aastore, 1))
    (kk : ∀ (H1 : Heap) (locs1 : List Loc), fh_P D cl A (va_up h a (some (.inl (cA, n, .inr (.inr (.inr (.inr (va_up f i.toNatClampNeg (some v))))))))) H1 → va_S A H0 H1 locs1 → W p l e R s m args below meth c H1 locs1 cells slots Q (F0 m (pc + 1) ls rest)) : W p l e R s m args below meth c H locs cells slots Q (F0 m pc ls (.ref v :: .int i :: .ref a :: rest)) := by
  obtain ⟨w, h1, h2, h3⟩ := hP
  obtain ⟨q0, hq⟩ := (h3 a _).mp ha
  obtain ⟨qk, hqk⟩ := (h3 v _).mp hv
  exact va_astqO hexec hb hK h1 h2 hS q0 t0 qk ci hq ht hca hqk hc hin hdg (fun H1 locs1 g1 g2 g3 => kk H1 locs1 ⟨_, g1, g2, h3.set h2 hq⟩ g3)
theorem fh_astqN (hexec : p.tables.exec = Jvm.exec) (hb : c.code = cc) (hK : va_K D cl tys s) (hP : fh_P D cl A h H) (hS : va_S A H0 H locs) (t0 : Nat) {cA : ClassId} {C : String} {n : Nat} {f : Nat → Option Nat} (ha : h a = some (.inl (cA, n, .inr (.inr (.inr (.inr f)))))) (ht : tys[t0]? = some (cA, .object C)) {i : Int32} (hin : vp_in i n) (hdg : decode cc pc = .ok (.aastore, 1))
    (kk : ∀ (H1 : Heap) (locs1 : List Loc), fh_P D cl A (va_up h a (some (.inl (cA, n, .inr (.inr (.inr (.inr (va_up f i.toNatClampNeg none)))))))) H1 → va_S A H0 H1 locs1 → W p l e R s m args below meth c H1 locs1 cells slots Q (F0 m (pc + 1) ls rest)) : W p l e R s m args below meth c H locs cells slots Q (F0 m pc ls (.null :: .int i :: .ref a :: rest)) := by
  obtain ⟨w, h1, h2, h3⟩ := hP
  obtain ⟨q0, hq⟩ := (h3 a _).mp ha
  exact va_astqN hexec hb hK h1 h2 hS q0 t0 hq ht hin hdg (fun H1 locs1 g1 g2 g3 => kk H1 locs1 ⟨_, g1, g2, h3.set h2 hq⟩ g3)
end FHR
end
section
/-! WHAT STANDS OUTSIDE THE WORLD AND STAYS: the JDK's empty array and its static, the class object of Object[], words that the list G can't hold. -/
abbrev fh_E : Type := va_G × (ClassId × ClassId × ClassId × ClassId) × (Nat × Nat)
abbrev fh_cI (E : fh_E) : ClassId := E.2.1.1
abbrev fh_cJ (E : fh_E) : ClassId := E.2.1.2.1
abbrev fh_cO (E : fh_E) : ClassId := E.2.1.2.2.1
abbrev fh_cZ (E : fh_E) : ClassId := E.2.1.2.2.2
abbrev fh_ed (E : fh_E) : Nat := E.2.2.1
abbrev fh_mi (E : fh_E) : Nat := E.2.2.2
abbrev fh_ty (E : fh_E) : List (ClassId × FieldType) := [(fh_cI E, .int), (fh_cJ E, .long), (fh_cO E, .object "java/lang/Object"), (fh_cZ E, .boolean)]
abbrev fh_es : String := "[Ljava/lang/Object;"
def fhNest : List Cond := [.methodLinkNest "BlockLayer" 9 y_CS_init "BlockLayer", .methodLinkNest "BlockLayer" 18 y_DK_init "BlockLayer", .methodLinkNest "BlockLayer$Disk" 11 y_QU_init "BlockLayer", .methodLinkNest "BlockLayer$Disk" 24 y_CS_init "BlockLayer", .methodLinkNest "BlockLayer$Disk" 106 y_BL_trackOf "BlockLayer"]
def fhCast : List Cond := [.castable "BlockLayer$Request" "BlockLayer$Request", .castable "BlockLayer$Copy" "BlockLayer$Copy", .castable "BlockLayer$Request" "java/lang/Object", .castable "BlockLayer$Copy" "java/lang/Object", .castable "java/lang/IndexOutOfBoundsException" "java/lang/IndexOutOfBoundsException", .castable "java/lang/UnsupportedOperationException" "java/lang/UnsupportedOperationException", .castable "java/lang/IllegalArgumentException" "java/lang/IllegalArgumentException"]
/-- one class can't be cast to the other -/
def fh_NC (X Y : String) (U : State) : Prop := ∀ c t : ClassId, U.vm.findClass X = some c → U.vm.findClass Y = some t → U.vm.assignable c t = false
theorem fh_NC.moved {X Y : String} {u U : State} (h : u.vm.Alike U.vm) (z : fh_NC X Y u) : fh_NC X Y U := by
  intro c t h1 h2
  rw [h.assignable]
  rw [h.findClass] at h1 h2
  exact z c t h1 h2
theorem fh_NC.of {X Y : String} {args : Array Value} {U : State} (h : (Cond.not (.castable X Y)).before args U = true) : fh_NC X Y U := by
  intro c t h1 h2
  cases hv : U.vm.assignable c t with
  | false => rfl
  | true => exfalso; revert h; simp [Cond.before, Cond.holds, Cond.value, h1, h2, hv]
def fhTxt : List (Nat × String) := [(173, "there is no such block"), (178, "the queue might have more than 40 requests"), (86, "a step has 1 to 1000 units"), (101, "a policy is 0 to 4")]
/-- a static field's place, outside the world -/
def fh_LS (C n d : String) (A : Nat → Prop) (U : State) (H : Heap) : Prop := ∃ (c : ClassId) (k : Class) (i : Nat) (f : Field) (a : Nat) (cell : Cell), U.vm.findClass C = some c ∧ U.fieldFound? C n d = some (c, k, i, f) ∧ f.isStatic = true ∧ k.statics = some a ∧ H[a]? = some cell ∧ cell.vm.isStatics = true ∧ cell.cls = c ∧ f.slot < cell.slots.size ∧ k.staticTypes[f.slot]? = some f.type ∧ ¬ A a
theorem fh_LS.moved {C n d : String} {A : Nat → Prop} {u U : State} {H : Heap} (hvm : u.vm.Alike U.vm) (h : fh_LS C n d A u H) : fh_LS C n d A U H := by
  obtain ⟨c, k, i, f, a, cell, h0, h1, h2, h3, h4, h5, h6, h7, h8, h9⟩ := h
  obtain ⟨k', hi', he⟩ := State.fieldFound?_setVm hvm h1
  exact ⟨c, k', i, f, a, cell, by rw [hvm.findClass]; exact h0, hi', h2, by rw [he]; exact h3, h4, h5, h6, h7, by rw [he]; exact h8, h9⟩
theorem fh_LS.kept {C n d : String} {A : Nat → Prop} {U : State} {H H1 : Heap} (h : fh_LS C n d A U H) (hq : ∀ a : Nat, a < H.size → ¬ A a → H1[a]? = H[a]?) : fh_LS C n d A U H1 := by
  obtain ⟨c, k, i, f, a, cell, h0, h1, h2, h3, h4, h5, h6, h7, h8, h9⟩ := h
  exact ⟨c, k, i, f, a, cell, h0, h1, h2, h3, by rw [hq a (Array.getElem?_eq_some_iff.mp h4).1 h9]; exact h4, h5, h6, h7, h8, h9⟩
theorem fh_LS.narrow {C n d : String} {A B : Nat → Prop} {U : State} {H : Heap} (h : fh_LS C n d A U H) (hAB : ∀ q, B q → A q) : fh_LS C n d B U H := by
  obtain ⟨c, k, i, f, a, cell, h0, h1, h2, h3, h4, h5, h6, h7, h8, h9⟩ := h
  exact ⟨c, k, i, f, a, cell, h0, h1, h2, h3, h4, h5, h6, h7, h8, fun z => h9 (hAB a z)⟩
theorem fh_LS.of {C n d : String} {A : Nat → Prop} {args : Array Value} {U : State} (h : (Cond.laysStatic C n d).before args U = true) (hA : ∀ a : Nat, a < U.heap.size → ¬ A a) : fh_LS C n d A U U.heap := by
  obtain ⟨c, k, i, f, a, cell, h0, h1, h2, h3, h4, h5, h6, h7, h8⟩ := Cond.laysStatic_spec h
  exact ⟨c, k, i, f, a, cell, h0, h1, h2, h3, h4, h5, h6, h7, h8, hA a (Array.getElem?_eq_some_iff.mp h4).1⟩
theorem fh_LS.use {C n d : String} {A : Nat → Prop} {args : Array Value} {U : State} (h : fh_LS C n d A U U.heap) : (Cond.laysStatic C n d).before args U = true := by
  obtain ⟨c, k, i, f, a, cell, h0, h1, h2, h3, h4, h5, h6, h7, h8, h9⟩ := h
  simp [Cond.before, Cond.holds, Cond.value, h0, h1, h2, h3, h4, h5, h6, h7, h8]
theorem fh_Zq_use {C n d : String} {A : Nat → Prop} {args : Array Value} {U : State} (h : va_Zq C n d A U U.heap) : (Cond.isRef (.static C n d)).before args U = true := by
  rcases h with h | ⟨t, h⟩
  · obtain ⟨cf, kf, fi, f, a, cell, h1, h2, h3, h4, h5, h6, h7, h8⟩ := h
    simp [Cond.before, Cond.holds, Cond.value, Term.eval, State.fieldNamed?, h1, h2, h4, h5, h6, h7]
  · obtain ⟨cf, kf, fi, f, a, cell, h1, h2, h3, h4, h5, h6, h7, h8⟩ := h
    simp [Cond.before, Cond.holds, Cond.value, Term.eval, State.fieldNamed?, h1, h2, h4, h5, h6, h7]
def fhDecl : List MethodName := [⟨"java/lang/RuntimeException", "<init>", "(Ljava/lang/String;)V"⟩, ⟨"java/lang/Exception", "<init>", "(Ljava/lang/String;)V"⟩, ⟨"java/lang/Throwable", "<init>", "(Ljava/lang/String;)V"⟩]
/-- what a throw needs: the two statics of Throwable, the four texts -/
def fh_X (A : Nat → Prop) (U : State) (H : Heap) : Prop := va_Zq "java/lang/Throwable" "UNASSIGNED_STACK" "[Ljava/lang/StackTraceElement;" A U H ∧ va_Zq "java/lang/Throwable" "SUPPRESSED_SENTINEL" "Ljava/util/List;" A U H ∧ (∀ q ∈ fhTxt, ∃ a : Nat, vk_R "BlockLayer" q.1 q.2 a U) ∧ fh_NC "java/lang/UnsupportedOperationException" "java/lang/IndexOutOfBoundsException" U ∧ fh_LS "java/lang/Throwable" "UNASSIGNED_STACK" "[Ljava/lang/StackTraceElement;" A U H ∧ fh_LS "java/lang/Throwable" "SUPPRESSED_SENTINEL" "Ljava/util/List;" A U H ∧ ∀ q ∈ fhDecl, va_Nw (.declares q) U
def fh_Z (E : fh_E) (A : Nat → Prop) (U : State) (H : Heap) : Prop :=
  va_Z "java/util/ArrayList" "DEFAULTCAPACITY_EMPTY_ELEMENTDATA" fh_es (.ref (fh_ed E)) A U H ∧ va_T (.object "java/lang/Object") (fh_ed E) 0 (fun _ => .null) A U H ∧ va_Mi fh_es (fh_mi E) U ∧ va_AO "java/lang/Object" U ∧ va_Dc U ∧ (∀ w ∈ fhNest, va_Nw w U) ∧ (∀ w ∈ fhCast, va_Nw w U) ∧ fh_X A U H
theorem fh_Z.warm {E : fh_E} {A : Nat → Prop} {u U : State} {H : Heap} (hW : u.WarmedH U.vm) (h : fh_Z E A u H) : fh_Z E A U H := by
  obtain ⟨h1, h2, h3, h4, h5, h6, h7, h8, h9, h10, h11, h12, h13, h14⟩ := h
  refine ⟨h1.moved hW.alike, h2.moved hW.alike, h3.moved hW.alike, h4.moved hW.alike, h5.moved hW.alike, fun w hw => ?_, fun w hw => ?_, va_Zq.moved hW.alike h8, va_Zq.moved hW.alike h9, fun q hq => ?_, h11.moved hW.alike, h12.moved hW.alike, h13.moved hW.alike, fun q hq => va_Nw.warmD hW (h14 q hq)⟩
  · have := h6 w hw
    simp only [fhNest, List.mem_cons, List.not_mem_nil, or_false] at hw
    rcases hw with rfl | rfl | rfl | rfl | rfl <;> exact va_Nw.warmM hW this
  · have := h7 w hw
    simp only [fhCast, List.mem_cons, List.not_mem_nil, or_false] at hw
    rcases hw with rfl | rfl | rfl | rfl | rfl | rfl | rfl <;> exact va_Nw.warmC hW this
  · obtain ⟨a, ha⟩ := h10 q hq
    exact ⟨a, ha.warm hW⟩
theorem fh_Z.kept {E : fh_E} {A : Nat → Prop} {U : State} {H H1 : Heap} (h : fh_Z E A U H) (hq : ∀ a : Nat, a < H.size → ¬ A a → H1[a]? = H[a]?) : fh_Z E A U H1 := by
  obtain ⟨h1, h2, h3, h4, h5, h6, h7, h8, h9, h10, h11, h12, h13, h14⟩ := h
  exact ⟨h1.kept hq, h2.kept hq, h3, h4, h5, h6, h7, va_Zq.kept h8 hq, va_Zq.kept h9 hq, h10, h11, h12.kept hq, h13.kept hq, h14⟩
theorem fh_Z.narrow {E : fh_E} {A B : Nat → Prop} {U : State} {H : Heap} (h : fh_Z E A U H) (hAB : ∀ q, B q → A q) : fh_Z E B U H := by
  obtain ⟨h1, h2, h3, h4, h5, h6, h7, h8, h9, h10, h11, h12, h13, h14⟩ := h
  exact ⟨h1.narrow hAB, h2.narrow hAB, h3, h4, h5, h6, h7, va_Zq.narrow h8 hAB, va_Zq.narrow h9 hAB, h10, h11, h12.narrow hAB, h13.narrow hAB, h14⟩
end
section
/-! CONTRACTS OVER THE WORLD. fh_Z is what stands outside the world and never changes (statics, mirrors, texts): it stands in a part of its own, ahead of this one, with fh_Z.warm, fh_Z.kept, fh_Z.narrow. -/
def fh_Pre (E : fh_E) (h : fh_H) (sz : Nat) (av : List Value) : Array Value → State → Prop := va_Pc av (fun U => U.heap.size = sz ∧ fh_P E.1 vwCl (fun _ => True) h U.heap ∧ va_K E.1 vwCl (fh_ty E) U ∧ fh_Z E (fh_A h sz) U U.heap)
def fh_Post (E : fh_E) (post : Option Value → fh_H → Prop) (A : Nat → Prop) : Array Value → State → Outcome → State → Prop := fun _ st oc t => (∃ (r : Option Value) (h1 : fh_H), oc = .returned r ∧ post r h1 ∧ fh_P E.1 vwCl A h1 t.heap) ∧ va_F A st t
def fh_Met (l : Launch) (y : MethodName) (ws : List Cond) (rm : Room) (E : fh_E) (av : List Value) (h : fh_H) (post : Option Value → fh_H → Prop) (mc ms : Nat) : Prop :=
  ∀ sz : Nat, Met l y ws rm (fh_Pre E h sz av) (fh_Post E post (fh_A h sz)) mc ms (fh_A h sz)
theorem fh_Met.mono {l : Launch} {y : MethodName} {ws : List Cond} {rm : Room} {E : fh_E} {av : List Value} {h : fh_H} {post post' : Option Value → fh_H → Prop} {mc ms : Nat} (hM : fh_Met l y ws rm E av h post mc ms) (hp : ∀ r h1, post r h1 → post' r h1) : fh_Met l y ws rm E av h post' mc ms := by
  intro sz p e ha hc hk s m args below hf happ hP hK
  obtain ⟨n, o, h1, h2, h3, ⟨⟨r, g, q1, q2, q3⟩, h5⟩, h6⟩ := hM sz p e ha hc hk s m args below hf happ hP hK
  exact ⟨n, o, h1, h2, h3, ⟨⟨r, g, q1, hp r g q2, q3⟩, h5⟩, h6⟩
theorem fh_blind {E : fh_E} {h : fh_H} {sz : Nat} {av : List Value} : FrameBlind (fh_Pre E h sz av) := by
  intro a U g mk q
  obtain ⟨q0, q1, q2, q3, q4⟩ := q
  exact ⟨q0, q1, q2, va_K.moved (u := U) (U := U.calling g mk a) (Vm.Alike.refl U.vm) q3, fh_Z.warm (u := U) (U := U.calling g mk a) (State.WarmedH.refl U) q4⟩
/-- a method's walk, from its entry -/
theorem fh_ofW {l : Launch} {y : MethodName} {ws ws' : List Cond} {rm : Room} {E : fh_E} {av : List Value} {h : fh_H} {post : Option Value → fh_H → Prop} {mc ms : Nat} {cc : ByteArray} {maxL : Nat} {ret : Option FieldType}
    (hy : plainName y.cls = true) (hw : ws = Cond.code y cc maxL ret :: ws') (hlen : (lg_sl av).length ≤ maxL)
    (body : ∀ (p : Program) (e : Env) (s : State) (m : MethodId) (below : List Frame) (meth : Method) (c : Code) (A : Nat → Prop) (ls : Array Slot), p.tables.exec = Jvm.exec → c.code = cc → meth.sig.returnType = ret → c.maxLocals = maxL → s.vm.findClass y.cls = some m.cls → (∀ w ∈ ws, w.before av.toArray s = true) → meth.locks = false → meth.name = y.name → c.exceptionTable.isEmpty = true → l.admits e →
      (∀ q : Nat, s.heap.size ≤ q → A q) → va_K E.1 vwCl (fh_ty E) s → fh_Z E A s s.heap → fh_P E.1 vwCl A h s.heap → va_S A s.heap s.heap [] → lv_has ls maxL (lv_args 0 av) →
      W p l e rm s m av.toArray below meth c s.heap [] 0 0 (MQ below (fh_Post E post A) av.toArray s mc ms A) (F0 m 0 ls [])) : fh_Met l y ws rm E av h post mc ms := by
  intro sz
  refine Met.ofW (cc := cc) (maxL := maxL) (ret := ret) hy hw ?_
  intro p e s m args below meth c s₁ B hml hv
  obtain ⟨rfl, hsz, hP, hK, hZ⟩ := hv
  subst hsz
  have hts := atoms_spec (ws := ws) B.pre
  have hl := lv_entry av (n := maxL) hlen
  rw [lg_entry_eq]
  generalize (lg_sl av ++ List.replicate (maxL - (lg_sl av).length) Slot.unset).toArray = ls at hl ⊢
  have hcode : (Cond.code y cc maxL ret).before av.toArray s = true := hts _ (by rw [hw]; exact List.mem_cons_self)
  exact body p e s m below meth c (fh_A h s.heap.size) ls B.exec B.bytes B.returns hml (findClass_of_methodNamed B.named) hts B.notSynchronized (name_of_methodNamed B.named B.method).1 (BodyLoose.noHandlers B hcode) B.admits (fun q hq => Or.inr hq) hK hZ (hP.self _) va_S.rf hl
section FHC
variable {p : Program} {l : Launch} {e : Env} {R : Room} {s : State} {m : MethodId} {args : Array Value} {below : List Frame} {meth : Method} {c : Code} {H : Heap} {locs : List Loc} {cells slots : Nat} {Q : State → Prop}
variable {cc : ByteArray} {pc : Nat} {ls : Array Slot} {rest : List Value} {E : fh_E} {A : Nat → Prop} {h : fh_H} {post : Option Value → fh_H → Prop} {mc ms : Nat}
theorem fh_sub (hP : fh_P E.1 vwCl A h H) (hS : va_S A s.heap H locs) (hA : ∀ q : Nat, s.heap.size ≤ q → A q) : ∀ q, fh_A h H.size q → A q := by
  intro q hq
  rcases hq with ⟨x, hx⟩ | hq
  · exact (hP.get hx).2
  · exact hA q (Nat.le_trans hS.1 hq)
theorem fh_preS {av : List Value} (hK : va_K E.1 vwCl (fh_ty E) s) (hZ : fh_Z E A s s.heap) (hP : fh_P E.1 vwCl A h H) (hS : va_S A s.heap H locs) (hA : ∀ q : Nat, s.heap.size ≤ q → A q) : PreS s H (fh_Pre E h H.size av) av := by
  refine ⟨fh_blind, fun U hU hW => ⟨rfl, by rw [hU], ?_, va_K.moved hW.alike hK, ?_⟩⟩
  · rw [hU]; exact hP.weaken (fun _ _ _ => trivial)
  · rw [hU]; exact fh_Z.warm hW ((hZ.kept (fun a h1 h2 => hS.2.1 a h1 h2)).narrow (fh_sub hP hS hA))
/-- behind a call -/
theorem fh_call {st0 : List Value} {a : Array Value} (hr : va_Run p l e R s m args below meth c H locs cells slots mc ms (F0 m pc ls st0) rest (fh_Post E post (fh_A h H.size) a) (fh_A h H.size)) (hP : fh_P E.1 vwCl A h H) (hS : va_S A s.heap H locs) (hA : ∀ q : Nat, s.heap.size ≤ q → A q)
    (kk : ∀ (r : Option Value) (h1 : fh_H) (H1 : Heap) (locs1 : List Loc), post r h1 → fh_P E.1 vwCl A h1 H1 → va_S A s.heap H1 locs1 → W p l e R s m args below meth c H1 locs1 (cells + mc) (slots + ms) Q (F0 m (pc + 3) ls (r.toList ++ rest))) : W p l e R s m args below meth c H locs cells slots Q (F0 m pc ls st0) := by
  have hsub := fh_sub hP hS hA
  intro T hT X
  obtain ⟨v, st₀, t, T', L, h0, X', hL, e1, e2, ⟨⟨r, h1, hv, hp, hP1⟩, hz, hk⟩, st⟩ := hr T hT X
  cases hv
  rw [h0] at hz hk
  obtain ⟨t2, a1, b1⟩ := kk v h1 T'.heap (locs ++ L) hp (by rw [e1]; exact hP1.weaken (fun q _ hq => hsub q hq))
    ⟨Nat.le_trans hS.1 (by rw [e1]; exact hz), fun q h1 h2 => by rw [e1, hk q (Nat.lt_of_lt_of_le h1 hS.1) (fun z => h2 (hsub q z))]; exact hS.2.1 q h1 h2, fun q hq => by
      rcases List.mem_append.mp hq with h | h
      · exact hS.2.2 q h
      · exact hsub _ (hL q h)⟩ T' rfl X'
  exact ⟨t2, st t2 a1, b1⟩
theorem fh_iret {v : Int32} (hexec : p.tables.exec = Jvm.exec) (hb : c.code = cc) (hr : meth.sig.returnType = some .int) (hlocks : meth.locks = false) (hc : cells ≤ mc) (hs : slots ≤ ms) (hP : fh_P E.1 vwCl A h H) (hS : va_S A s.heap H locs) (hpost : post (some (.int v)) h) (hdg : decode cc pc = .ok (.ireturn, 1)) : W p l e R s m args below meth c H locs cells slots (MQ below (fh_Post E post A) args s mc ms A) (F0 m pc ls [.int v]) :=
  W.widen hc hs (W.iret hexec hb hr (fun t ht _ => ⟨⟨_, h, rfl, hpost, by rw [ht]; exact hP⟩, hS.F ht⟩) hS.2.2 hdg hlocks)
theorem fh_zret {v : Int32} {ty : FieldType} (hexec : p.tables.exec = Jvm.exec) (hb : c.code = cc) (hr : meth.sig.returnType = some ty) (hn : narrow ty (.int v) = .int v) (hlocks : meth.locks = false) (hc : cells ≤ mc) (hs : slots ≤ ms) (hP : fh_P E.1 vwCl A h H) (hS : va_S A s.heap H locs) (hpost : post (some (.int v)) h) (hdg : decode cc pc = .ok (.ireturn, 1)) : W p l e R s m args below meth c H locs cells slots (MQ below (fh_Post E post A) args s mc ms A) (F0 m pc ls [.int v]) :=
  W.widen hc hs (W.zret hexec hb hr hn (fun t ht _ => ⟨⟨_, h, rfl, hpost, by rw [ht]; exact hP⟩, hS.F ht⟩) hS.2.2 hdg hlocks)
theorem fh_vret (hexec : p.tables.exec = Jvm.exec) (hb : c.code = cc) (hr : meth.sig.returnType = none) (hlocks : meth.locks = false) (hc : cells ≤ mc) (hs : slots ≤ ms) (hP : fh_P E.1 vwCl A h H) (hS : va_S A s.heap H locs) (hpost : post none h) (hdg : decode cc pc = .ok (.return_, 1)) : W p l e R s m args below meth c H locs cells slots (MQ below (fh_Post E post A) args s mc ms A) (F0 m pc ls []) :=
  W.widen hc hs (W.vret hexec hb hr (fun t ht _ => ⟨⟨_, h, rfl, hpost, by rw [ht]; exact hP⟩, hS.F ht⟩) hS.2.2 hdg hlocks)
theorem fh_aret {v : Value} {rt : FieldType} (hexec : p.tables.exec = Jvm.exec) (hb : c.code = cc) (hr : meth.sig.returnType = some rt) (hrt : (∃ n, rt = .object n) ∨ ∃ t, rt = .array t) (hv : v = .null ∨ ∃ a, v = .ref a) (hlocks : meth.locks = false) (hc : cells ≤ mc) (hs : slots ≤ ms) (hP : fh_P E.1 vwCl A h H) (hS : va_S A s.heap H locs) (hpost : post (some v) h) (hdg : decode cc pc = .ok (.areturn, 1)) : W p l e R s m args below meth c H locs cells slots (MQ below (fh_Post E post A) args s mc ms A) (F0 m pc ls [v]) :=
  W.widen hc hs (W.aret hexec hb hr hrt hv (fun t ht _ => ⟨⟨_, h, rfl, hpost, by rw [ht]; exact hP⟩, hS.F ht⟩) hS.2.2 hdg hlocks)
end FHC
section FHK
variable {p : Program} {l : Launch} {e : Env} {R : Room} {s : State} {m : MethodId} {args : Array Value} {below : List Frame} {meth : Method} {c : Code} {H : Heap} {locs : List Loc} {cells slots : Nat} {Q : State → Prop}
variable {pc : Nat} {ls : Array Slot} {rest As : List Value} {E : fh_E} {A : Nat → Prop} {h : fh_H} {post : Option Value → fh_H → Prop}
variable {y : MethodName} {bytes cc : ByteArray} {maxL nL mc ms n index : Nat} {ret : Option FieldType} {ws : List Cond} {rm : Room} {Ts : List Cond} {own C host : String} {b : Nat}
theorem fh_callS (S : CallFix p m c cc nL s args Ts own) (hM : fh_Met l y ws rm E As h post mc ms) (cw : CallB R s args own index y bytes maxL ret ws rm mc ms n ∧ (Cond.static y).before args s = true) (hK : va_K E.1 vwCl (fh_ty E) s) (hZ : fh_Z E A s s.heap) (hP : fh_P E.1 vwCl A h H) (hS : va_S A s.heap H locs) (hA : ∀ q : Nat, s.heap.size ≤ q → A q) (hn : As.length = n) (hsize : ls.size = nL) {st0 : List Value} (hst : st0 = As.reverse ++ rest) (hW : (rest.map fun v => v.category).sum ≤ 8) (hdg : decode cc pc = .ok (.invokestatic index, 3)) (hf : cells + mc ≤ R.cells ∧ slots + ms ≤ R.slots)
    (kk : ∀ (r : Option Value) (h1 : fh_H) (H1 : Heap) (locs1 : List Loc), post r h1 → fh_P E.1 vwCl A h1 H1 → va_S A s.heap H1 locs1 → W p l e R s m args below meth c H1 locs1 (cells + mc) (slots + ms) Q (F0 m (pc + 3) ls (r.toList ++ rest))) : W p l e R s m args below meth c H locs cells slots Q (F0 m pc ls st0) := by
  subst hst
  exact fh_call (va_runS S (hM H.size) cw (fh_preS hK hZ hP hS hA) rfl hn hsize rfl (lv_room hW) hdg hf) hP hS hA kk
theorem fh_callI (S : CallFix p m c cc nL s args Ts own) (hM : fh_Met l y ws rm E (.ref b :: As) h post mc ms) (cw : CallB R s args own index y bytes maxL none ws rm mc ms n ∧ y.name = "<init>" ∧ (Cond.instanceMethod y).before args s = true) (hK : va_K E.1 vwCl (fh_ty E) s) (hZ : fh_Z E A s s.heap) (hP : fh_P E.1 vwCl A h H) (hS : va_S A s.heap H locs) (hA : ∀ q : Nat, s.heap.size ≤ q → A q) (hn : As.length = n) (hsize : ls.size = nL) {st0 : List Value} (hst : st0 = As.reverse ++ .ref b :: rest) (hW : (rest.map fun v => v.category).sum ≤ 8) (hdg : decode cc pc = .ok (.invokespecial index, 3)) (hf : cells + mc ≤ R.cells ∧ slots + ms ≤ R.slots)
    (kk : ∀ (r : Option Value) (h1 : fh_H) (H1 : Heap) (locs1 : List Loc), post r h1 → fh_P E.1 vwCl A h1 H1 → va_S A s.heap H1 locs1 → W p l e R s m args below meth c H1 locs1 (cells + mc) (slots + ms) Q (F0 m (pc + 3) ls (r.toList ++ rest))) : W p l e R s m args below meth c H locs cells slots Q (F0 m pc ls st0) := by
  subst hst
  exact fh_call (va_runI S (hM H.size) cw (fh_preS hK hZ hP hS hA) rfl hn hsize rfl (lv_room hW) hdg hf) hP hS hA kk
theorem fh_callV (S : CallFix p m c cc nL s args Ts own) (hM : fh_Met l y ws rm E (.ref b :: As) h post mc ms) (cw : CallW R s args own C index y bytes maxL ret ws rm mc ms n) {ci : Nat} {T : u_T} {N : Nat} (hci : vwCl[ci]? = some (C, T, N)) {fs : List Value} (hob : h b = some (.inr (ci, fs))) (hK : va_K E.1 vwCl (fh_ty E) s) (hZ : fh_Z E A s s.heap) (hP : fh_P E.1 vwCl A h H) (hS : va_S A s.heap H locs) (hA : ∀ q : Nat, s.heap.size ≤ q → A q) (hn : As.length = n) (hsize : ls.size = nL) {st0 : List Value} (hst : st0 = As.reverse ++ .ref b :: rest) (hW : (rest.map fun v => v.category).sum ≤ 8) (hdg : decode cc pc = .ok (.invokevirtual index, 3)) (hf : cells + mc ≤ R.cells ∧ slots + ms ≤ R.slots)
    (kk : ∀ (r : Option Value) (h1 : fh_H) (H1 : Heap) (locs1 : List Loc), post r h1 → fh_P E.1 vwCl A h1 H1 → va_S A s.heap H1 locs1 → W p l e R s m args below meth c H1 locs1 (cells + mc) (slots + ms) Q (F0 m (pc + 3) ls (r.toList ++ rest))) : W p l e R s m args below meth c H locs cells slots Q (F0 m pc ls st0) := by
  subst hst
  have hp := fh_preS (av := .ref b :: As) hK hZ hP hS hA
  exact fh_call (va_runV S (hM H.size) cw ⟨hp.1, fh_recv hK hP hci hob, hp.2⟩ rfl hn hsize rfl (lv_room hW) hdg hf) hP hS hA kk
theorem fh_callVN (S : CallFix p m c cc nL s args Ts own) (hM : fh_Met l y ws rm E (.ref b :: As) h post mc ms) (cw : va_CN R s args own index y host bytes maxL ret ws rm mc ms n ∧ (Cond.instanceMethod y).before args s = true ∧ (Cond.selects C y y).before args s = true) {ci : Nat} {T : u_T} {N : Nat} (hci : vwCl[ci]? = some (C, T, N)) {fs : List Value} (hob : h b = some (.inr (ci, fs))) (hK : va_K E.1 vwCl (fh_ty E) s) (hZ : fh_Z E A s s.heap) (hP : fh_P E.1 vwCl A h H) (hS : va_S A s.heap H locs) (hA : ∀ q : Nat, s.heap.size ≤ q → A q) (hn : As.length = n) (hsize : ls.size = nL) {st0 : List Value} (hst : st0 = As.reverse ++ .ref b :: rest) (hW : (rest.map fun v => v.category).sum ≤ 8) (hdg : decode cc pc = .ok (.invokevirtual index, 3)) (hf : cells + mc ≤ R.cells ∧ slots + ms ≤ R.slots)
    (kk : ∀ (r : Option Value) (h1 : fh_H) (H1 : Heap) (locs1 : List Loc), post r h1 → fh_P E.1 vwCl A h1 H1 → va_S A s.heap H1 locs1 → W p l e R s m args below meth c H1 locs1 (cells + mc) (slots + ms) Q (F0 m (pc + 3) ls (r.toList ++ rest))) : W p l e R s m args below meth c H locs cells slots Q (F0 m pc ls st0) := by
  subst hst
  have hp := fh_preS (av := .ref b :: As) hK hZ hP hS hA
  exact fh_call (va_runVN S (hM H.size) cw ⟨hp.1, fh_recv hK hP hci hob, hp.2⟩ rfl hn hsize rfl (lv_room hW) hdg hf) hP hS hA kk
end FHK
end
section
/-! classes, callees' descriptors, words of a call, rows more -/
theorem C_AL : fh_C vwCl 0 R_AL T_AL 3 ty_AL := ⟨rfl, by decide +kernel, by decide +kernel⟩
theorem iG_AL : ∀ w ∈ u_ws R_AL T_AL 3, w ∈ G := (List.forall_mem_cons.mpr ⟨gm56, List.forall_mem_cons.mpr ⟨gm58, List.forall_mem_cons.mpr ⟨gm60, fun _ h => absurd h List.not_mem_nil⟩⟩⟩ : ∀ w ∈ ([.lays R_AL "java/util/ArrayList" "elementData" "[Ljava/lang/Object;", .lays R_AL "java/util/ArrayList" "size" "I", .lays R_AL "java/util/AbstractList" "modCount" "I"] : List Cond), w ∈ G)
theorem C_CP : fh_C vwCl 1 R_CP T_CP 3 ty_CP := ⟨rfl, by decide +kernel, by decide +kernel⟩
theorem iG_CP : ∀ w ∈ u_ws R_CP T_CP 3, w ∈ G := (List.forall_mem_cons.mpr ⟨gm281, List.forall_mem_cons.mpr ⟨gm283, List.forall_mem_cons.mpr ⟨gm285, fun _ h => absurd h List.not_mem_nil⟩⟩⟩ : ∀ w ∈ ([.laysFinal R_CP "BlockLayer$Copy" "block" "I", .lays R_CP "BlockLayer$Copy" "value" "I", .lays R_CP "BlockLayer$Copy" "dirty" "Z"] : List Cond), w ∈ G)
theorem C_CS : fh_C vwCl 2 R_CS T_CS 1 ty_CS := ⟨rfl, by decide +kernel, by decide +kernel⟩
theorem iG_CS : ∀ w ∈ u_ws R_CS T_CS 1, w ∈ G := (List.forall_mem_cons.mpr ⟨gm64, fun _ h => absurd h List.not_mem_nil⟩ : ∀ w ∈ ([.laysFinal R_CS "BlockLayer$Copies" "inOrder" "Ljava/util/ArrayList;"] : List Cond), w ∈ G)
theorem C_RQ : fh_C vwCl 3 R_RQ T_RQ 6 ty_RQ := ⟨rfl, by decide +kernel, by decide +kernel⟩
theorem iG_RQ : ∀ w ∈ u_ws R_RQ T_RQ 6, w ∈ G := (List.forall_mem_cons.mpr ⟨gm571, List.forall_mem_cons.mpr ⟨gm573, List.forall_mem_cons.mpr ⟨gm575, List.forall_mem_cons.mpr ⟨gm577, List.forall_mem_cons.mpr ⟨gm579, List.forall_mem_cons.mpr ⟨gm581, fun _ h => absurd h List.not_mem_nil⟩⟩⟩⟩⟩⟩ : ∀ w ∈ ([.laysFinal R_RQ "BlockLayer$Request" "number" "I", .laysFinal R_RQ "BlockLayer$Request" "kind" "I", .laysFinal R_RQ "BlockLayer$Request" "block" "I", .laysFinal R_RQ "BlockLayer$Request" "made" "I", .lays R_RQ "BlockLayer$Request" "value" "I", .lays R_RQ "BlockLayer$Request" "ended" "Z"] : List Cond), w ∈ G)
theorem C_QU : fh_C vwCl 4 R_QU T_QU 1 ty_QU := ⟨rfl, by decide +kernel, by decide +kernel⟩
theorem iG_QU : ∀ w ∈ u_ws R_QU T_QU 1, w ∈ G := (List.forall_mem_cons.mpr ⟨gm82, fun _ h => absurd h List.not_mem_nil⟩ : ∀ w ∈ ([.laysFinal R_QU "BlockLayer$Queue" "waiting" "Ljava/util/ArrayList;"] : List Cond), w ∈ G)
theorem C_DK : fh_C vwCl 5 R_DK T_DK 11 ty_DK := ⟨rfl, by decide +kernel, by decide +kernel⟩
theorem iG_DK : ∀ w ∈ u_ws R_DK T_DK 11, w ∈ G := (List.forall_mem_cons.mpr ⟨gm106, List.forall_mem_cons.mpr ⟨gm108, List.forall_mem_cons.mpr ⟨gm110, List.forall_mem_cons.mpr ⟨gm112, List.forall_mem_cons.mpr ⟨gm114, List.forall_mem_cons.mpr ⟨gm116, List.forall_mem_cons.mpr ⟨gm118, List.forall_mem_cons.mpr ⟨gm120, List.forall_mem_cons.mpr ⟨gm122, List.forall_mem_cons.mpr ⟨gm124, List.forall_mem_cons.mpr ⟨gm126, fun _ h => absurd h List.not_mem_nil⟩⟩⟩⟩⟩⟩⟩⟩⟩⟩⟩ : ∀ w ∈ ([.laysFinal R_DK "BlockLayer$Disk" "queue" "LBlockLayer$Queue;", .laysFinal R_DK "BlockLayer$Disk" "onMedia" "[I", .laysFinal R_DK "BlockLayer$Disk" "cache" "LBlockLayer$Copies;", .lays R_DK "BlockLayer$Disk" "serving" "LBlockLayer$Request;", .lays R_DK "BlockLayer$Disk" "unitsLeft" "I", .lays R_DK "BlockLayer$Disk" "time" "I", .lays R_DK "BlockLayer$Disk" "head" "I", .lays R_DK "BlockLayer$Disk" "goesUp" "Z", .lays R_DK "BlockLayer$Disk" "way" "I", .lays R_DK "BlockLayer$Disk" "served" "I", .lays R_DK "BlockLayer$Disk" "idleUnits" "I"] : List Cond), w ∈ G)
theorem C_BL : fh_C vwCl 6 R_BL T_BL 7 ty_BL := ⟨rfl, by decide +kernel, by decide +kernel⟩
theorem iG_BL : ∀ w ∈ u_ws R_BL T_BL 7, w ∈ G := (List.forall_mem_cons.mpr ⟨gm137, List.forall_mem_cons.mpr ⟨gm139, List.forall_mem_cons.mpr ⟨gm141, List.forall_mem_cons.mpr ⟨gm143, List.forall_mem_cons.mpr ⟨gm145, List.forall_mem_cons.mpr ⟨gm147, List.forall_mem_cons.mpr ⟨gm149, fun _ h => absurd h List.not_mem_nil⟩⟩⟩⟩⟩⟩⟩ : ∀ w ∈ ([.laysFinal R_BL "BlockLayer" "buffers" "LBlockLayer$Copies;", .laysFinal R_BL "BlockLayer" "disk" "LBlockLayer$Disk;", .lays R_BL "BlockLayer" "nextNumber" "I", .lays R_BL "BlockLayer" "hits" "I", .lays R_BL "BlockLayer" "misses" "I", .lays R_BL "BlockLayer" "evictions" "I", .lays R_BL "BlockLayer" "absorbed" "I"] : List Cond), w ∈ G)
theorem C_MD : fh_C vwCl 7 R_MD T_MD 29 ty_MD := ⟨rfl, by decide +kernel, by decide +kernel⟩
theorem iG_MD : ∀ w ∈ u_ws R_MD T_MD 29, w ∈ G := (List.forall_mem_cons.mpr ⟨gm702, List.forall_mem_cons.mpr ⟨gm704, List.forall_mem_cons.mpr ⟨gm706, List.forall_mem_cons.mpr ⟨gm708, List.forall_mem_cons.mpr ⟨gm710, List.forall_mem_cons.mpr ⟨gm712, List.forall_mem_cons.mpr ⟨gm714, List.forall_mem_cons.mpr ⟨gm716, List.forall_mem_cons.mpr ⟨gm718, List.forall_mem_cons.mpr ⟨gm720, List.forall_mem_cons.mpr ⟨gm722, List.forall_mem_cons.mpr ⟨gm724, List.forall_mem_cons.mpr ⟨gm726, List.forall_mem_cons.mpr ⟨gm728, List.forall_mem_cons.mpr ⟨gm730, List.forall_mem_cons.mpr ⟨gm732, List.forall_mem_cons.mpr ⟨gm734, List.forall_mem_cons.mpr ⟨gm736, List.forall_mem_cons.mpr ⟨gm738, List.forall_mem_cons.mpr ⟨gm740, List.forall_mem_cons.mpr ⟨gm742, List.forall_mem_cons.mpr ⟨gm744, List.forall_mem_cons.mpr ⟨gm746, List.forall_mem_cons.mpr ⟨gm748, List.forall_mem_cons.mpr ⟨gm750, List.forall_mem_cons.mpr ⟨gm752, List.forall_mem_cons.mpr ⟨gm754, List.forall_mem_cons.mpr ⟨gm756, List.forall_mem_cons.mpr ⟨gm758, fun _ h => absurd h List.not_mem_nil⟩⟩⟩⟩⟩⟩⟩⟩⟩⟩⟩⟩⟩⟩⟩⟩⟩⟩⟩⟩⟩⟩⟩⟩⟩⟩⟩⟩⟩ : ∀ w ∈ ([.lays R_MD "BlockLayerModel" "code" "I", .lays R_MD "BlockLayerModel" "now" "I", .lays R_MD "BlockLayerModel" "idle" "I", .lays R_MD "BlockLayerModel" "hits" "I", .lays R_MD "BlockLayerModel" "misses" "I", .lays R_MD "BlockLayerModel" "evictions" "I", .lays R_MD "BlockLayerModel" "absorbed" "I", .lays R_MD "BlockLayerModel" "served" "I", .lays R_MD "BlockLayerModel" "policy" "I", .laysFinal R_MD "BlockLayerModel" "media" "[I", .lays R_MD "BlockLayerModel" "buffers" "I", .laysFinal R_MD "BlockLayerModel" "bufferBlock" "[I", .laysFinal R_MD "BlockLayerModel" "bufferValue" "[I", .laysFinal R_MD "BlockLayerModel" "dirty" "[Z", .lays R_MD "BlockLayerModel" "numbers" "I", .lays R_MD "BlockLayerModel" "queue" "I", .laysFinal R_MD "BlockLayerModel" "number" "[I", .laysFinal R_MD "BlockLayerModel" "kind" "[I", .laysFinal R_MD "BlockLayerModel" "block" "[I", .laysFinal R_MD "BlockLayerModel" "value" "[I", .laysFinal R_MD "BlockLayerModel" "made" "[I", .lays R_MD "BlockLayerModel" "cached" "I", .laysFinal R_MD "BlockLayerModel" "cacheBlock" "[I", .laysFinal R_MD "BlockLayerModel" "cacheValue" "[I", .lays R_MD "BlockLayerModel" "head" "I", .lays R_MD "BlockLayerModel" "up" "Z", .lays R_MD "BlockLayerModel" "serves" "Z", .lays R_MD "BlockLayerModel" "until" "I", .lays R_MD "BlockLayerModel" "lastRead" "I"] : List Cond), w ∈ G)
theorem hdy_AB_init : y_AB_init.cls ≠ "java/lang/invoke/MethodHandle" ∧ y_AB_init.cls ≠ "java/lang/invoke/VarHandle" ∧ (parseMethodDescriptor y_AB_init.desc).map (fun d => d.parameters.length) = some 0 := by decide +kernel
theorem hdy_AC_init : y_AC_init.cls ≠ "java/lang/invoke/MethodHandle" ∧ y_AC_init.cls ≠ "java/lang/invoke/VarHandle" ∧ (parseMethodDescriptor y_AC_init.desc).map (fun d => d.parameters.length) = some 0 := by decide +kernel
theorem hdy_AL_add0 : y_AL_add0.cls ≠ "java/lang/invoke/MethodHandle" ∧ y_AL_add0.cls ≠ "java/lang/invoke/VarHandle" ∧ (parseMethodDescriptor y_AL_add0.desc).map (fun d => d.parameters.length) = some 1 := by decide +kernel
theorem hdy_AL_add1 : y_AL_add1.cls ≠ "java/lang/invoke/MethodHandle" ∧ y_AL_add1.cls ≠ "java/lang/invoke/VarHandle" ∧ (parseMethodDescriptor y_AL_add1.desc).map (fun d => d.parameters.length) = some 3 := by decide +kernel
theorem hdy_AL_clear : y_AL_clear.cls ≠ "java/lang/invoke/MethodHandle" ∧ y_AL_clear.cls ≠ "java/lang/invoke/VarHandle" ∧ (parseMethodDescriptor y_AL_clear.desc).map (fun d => d.parameters.length) = some 0 := by decide +kernel
theorem hdy_AL_elementData : y_AL_elementData.cls ≠ "java/lang/invoke/MethodHandle" ∧ y_AL_elementData.cls ≠ "java/lang/invoke/VarHandle" ∧ (parseMethodDescriptor y_AL_elementData.desc).map (fun d => d.parameters.length) = some 1 := by decide +kernel
theorem hdy_AL_fastRemove : y_AL_fastRemove.cls ≠ "java/lang/invoke/MethodHandle" ∧ y_AL_fastRemove.cls ≠ "java/lang/invoke/VarHandle" ∧ (parseMethodDescriptor y_AL_fastRemove.desc).map (fun d => d.parameters.length) = some 2 := by decide +kernel
theorem hdy_AL_get : y_AL_get.cls ≠ "java/lang/invoke/MethodHandle" ∧ y_AL_get.cls ≠ "java/lang/invoke/VarHandle" ∧ (parseMethodDescriptor y_AL_get.desc).map (fun d => d.parameters.length) = some 1 := by decide +kernel
theorem hdy_AL_grow0 : y_AL_grow0.cls ≠ "java/lang/invoke/MethodHandle" ∧ y_AL_grow0.cls ≠ "java/lang/invoke/VarHandle" ∧ (parseMethodDescriptor y_AL_grow0.desc).map (fun d => d.parameters.length) = some 0 := by decide +kernel
theorem hdy_AL_grow1 : y_AL_grow1.cls ≠ "java/lang/invoke/MethodHandle" ∧ y_AL_grow1.cls ≠ "java/lang/invoke/VarHandle" ∧ (parseMethodDescriptor y_AL_grow1.desc).map (fun d => d.parameters.length) = some 1 := by decide +kernel
theorem hdy_AL_init : y_AL_init.cls ≠ "java/lang/invoke/MethodHandle" ∧ y_AL_init.cls ≠ "java/lang/invoke/VarHandle" ∧ (parseMethodDescriptor y_AL_init.desc).map (fun d => d.parameters.length) = some 0 := by decide +kernel
theorem hdy_AL_isEmpty : y_AL_isEmpty.cls ≠ "java/lang/invoke/MethodHandle" ∧ y_AL_isEmpty.cls ≠ "java/lang/invoke/VarHandle" ∧ (parseMethodDescriptor y_AL_isEmpty.desc).map (fun d => d.parameters.length) = some 0 := by decide +kernel
theorem hdy_AL_remove : y_AL_remove.cls ≠ "java/lang/invoke/MethodHandle" ∧ y_AL_remove.cls ≠ "java/lang/invoke/VarHandle" ∧ (parseMethodDescriptor y_AL_remove.desc).map (fun d => d.parameters.length) = some 1 := by decide +kernel
theorem hdy_AL_size : y_AL_size.cls ≠ "java/lang/invoke/MethodHandle" ∧ y_AL_size.cls ≠ "java/lang/invoke/VarHandle" ∧ (parseMethodDescriptor y_AL_size.desc).map (fun d => d.parameters.length) = some 0 := by decide +kernel
theorem hdy_AR_copyOf0 : y_AR_copyOf0.cls ≠ "java/lang/invoke/MethodHandle" ∧ y_AR_copyOf0.cls ≠ "java/lang/invoke/VarHandle" ∧ (parseMethodDescriptor y_AR_copyOf0.desc).map (fun d => d.parameters.length) = some 2 := by decide +kernel
theorem hdy_AR_copyOf1 : y_AR_copyOf1.cls ≠ "java/lang/invoke/MethodHandle" ∧ y_AR_copyOf1.cls ≠ "java/lang/invoke/VarHandle" ∧ (parseMethodDescriptor y_AR_copyOf1.desc).map (fun d => d.parameters.length) = some 3 := by decide +kernel
theorem hdy_AS_hugeLength : y_AS_hugeLength.cls ≠ "java/lang/invoke/MethodHandle" ∧ y_AS_hugeLength.cls ≠ "java/lang/invoke/VarHandle" ∧ (parseMethodDescriptor y_AS_hugeLength.desc).map (fun d => d.parameters.length) = some 2 := by decide +kernel
theorem hdy_AS_newLength : y_AS_newLength.cls ≠ "java/lang/invoke/MethodHandle" ∧ y_AS_newLength.cls ≠ "java/lang/invoke/VarHandle" ∧ (parseMethodDescriptor y_AS_newLength.desc).map (fun d => d.parameters.length) = some 3 := by decide +kernel
theorem hdy_BL_buffer : y_BL_buffer.cls ≠ "java/lang/invoke/MethodHandle" ∧ y_BL_buffer.cls ≠ "java/lang/invoke/VarHandle" ∧ (parseMethodDescriptor y_BL_buffer.desc).map (fun d => d.parameters.length) = some 1 := by decide +kernel
theorem hdy_BL_crash : y_BL_crash.cls ≠ "java/lang/invoke/MethodHandle" ∧ y_BL_crash.cls ≠ "java/lang/invoke/VarHandle" ∧ (parseMethodDescriptor y_BL_crash.desc).map (fun d => d.parameters.length) = some 0 := by decide +kernel
theorem hdy_BL_drain : y_BL_drain.cls ≠ "java/lang/invoke/MethodHandle" ∧ y_BL_drain.cls ≠ "java/lang/invoke/VarHandle" ∧ (parseMethodDescriptor y_BL_drain.desc).map (fun d => d.parameters.length) = some 0 := by decide +kernel
theorem hdy_BL_init : y_BL_init.cls ≠ "java/lang/invoke/MethodHandle" ∧ y_BL_init.cls ≠ "java/lang/invoke/VarHandle" ∧ (parseMethodDescriptor y_BL_init.desc).map (fun d => d.parameters.length) = some 0 := by decide +kernel
theorem hdy_BL_liveRequest : y_BL_liveRequest.cls ≠ "java/lang/invoke/MethodHandle" ∧ y_BL_liveRequest.cls ≠ "java/lang/invoke/VarHandle" ∧ (parseMethodDescriptor y_BL_liveRequest.desc).map (fun d => d.parameters.length) = some 1 := by decide +kernel
theorem hdy_BL_load : y_BL_load.cls ≠ "java/lang/invoke/MethodHandle" ∧ y_BL_load.cls ≠ "java/lang/invoke/VarHandle" ∧ (parseMethodDescriptor y_BL_load.desc).map (fun d => d.parameters.length) = some 1 := by decide +kernel
theorem hdy_BL_makeBufferRoom : y_BL_makeBufferRoom.cls ≠ "java/lang/invoke/MethodHandle" ∧ y_BL_makeBufferRoom.cls ≠ "java/lang/invoke/VarHandle" ∧ (parseMethodDescriptor y_BL_makeBufferRoom.desc).map (fun d => d.parameters.length) = some 0 := by decide +kernel
theorem hdy_BL_makeRequest : y_BL_makeRequest.cls ≠ "java/lang/invoke/MethodHandle" ∧ y_BL_makeRequest.cls ≠ "java/lang/invoke/VarHandle" ∧ (parseMethodDescriptor y_BL_makeRequest.desc).map (fun d => d.parameters.length) = some 3 := by decide +kernel
theorem hdy_BL_media : y_BL_media.cls ≠ "java/lang/invoke/MethodHandle" ∧ y_BL_media.cls ≠ "java/lang/invoke/VarHandle" ∧ (parseMethodDescriptor y_BL_media.desc).map (fun d => d.parameters.length) = some 1 := by decide +kernel
theorem hdy_BL_newest : y_BL_newest.cls ≠ "java/lang/invoke/MethodHandle" ∧ y_BL_newest.cls ≠ "java/lang/invoke/VarHandle" ∧ (parseMethodDescriptor y_BL_newest.desc).map (fun d => d.parameters.length) = some 1 := by decide +kernel
theorem hdy_BL_newestOf : y_BL_newestOf.cls ≠ "java/lang/invoke/MethodHandle" ∧ y_BL_newestOf.cls ≠ "java/lang/invoke/VarHandle" ∧ (parseMethodDescriptor y_BL_newestOf.desc).map (fun d => d.parameters.length) = some 1 := by decide +kernel
theorem hdy_BL_policy : y_BL_policy.cls ≠ "java/lang/invoke/MethodHandle" ∧ y_BL_policy.cls ≠ "java/lang/invoke/VarHandle" ∧ (parseMethodDescriptor y_BL_policy.desc).map (fun d => d.parameters.length) = some 1 := by decide +kernel
theorem hdy_BL_queued : y_BL_queued.cls ≠ "java/lang/invoke/MethodHandle" ∧ y_BL_queued.cls ≠ "java/lang/invoke/VarHandle" ∧ (parseMethodDescriptor y_BL_queued.desc).map (fun d => d.parameters.length) = some 1 := by decide +kernel
theorem hdy_BL_request : y_BL_request.cls ≠ "java/lang/invoke/MethodHandle" ∧ y_BL_request.cls ≠ "java/lang/invoke/VarHandle" ∧ (parseMethodDescriptor y_BL_request.desc).map (fun d => d.parameters.length) = some 2 := by decide +kernel
theorem hdy_BL_requireBlock : y_BL_requireBlock.cls ≠ "java/lang/invoke/MethodHandle" ∧ y_BL_requireBlock.cls ≠ "java/lang/invoke/VarHandle" ∧ (parseMethodDescriptor y_BL_requireBlock.desc).map (fun d => d.parameters.length) = some 1 := by decide +kernel
theorem hdy_BL_requireQueueRoom : y_BL_requireQueueRoom.cls ≠ "java/lang/invoke/MethodHandle" ∧ y_BL_requireQueueRoom.cls ≠ "java/lang/invoke/VarHandle" ∧ (parseMethodDescriptor y_BL_requireQueueRoom.desc).map (fun d => d.parameters.length) = some 1 := by decide +kernel
theorem hdy_BL_save : y_BL_save.cls ≠ "java/lang/invoke/MethodHandle" ∧ y_BL_save.cls ≠ "java/lang/invoke/VarHandle" ∧ (parseMethodDescriptor y_BL_save.desc).map (fun d => d.parameters.length) = some 2 := by decide +kernel
theorem hdy_BL_step : y_BL_step.cls ≠ "java/lang/invoke/MethodHandle" ∧ y_BL_step.cls ≠ "java/lang/invoke/VarHandle" ∧ (parseMethodDescriptor y_BL_step.desc).map (fun d => d.parameters.length) = some 1 := by decide +kernel
theorem hdy_BL_sync : y_BL_sync.cls ≠ "java/lang/invoke/MethodHandle" ∧ y_BL_sync.cls ≠ "java/lang/invoke/VarHandle" ∧ (parseMethodDescriptor y_BL_sync.desc).map (fun d => d.parameters.length) = some 0 := by decide +kernel
theorem hdy_BL_told : y_BL_told.cls ≠ "java/lang/invoke/MethodHandle" ∧ y_BL_told.cls ≠ "java/lang/invoke/VarHandle" ∧ (parseMethodDescriptor y_BL_told.desc).map (fun d => d.parameters.length) = some 1 := by decide +kernel
theorem hdy_BL_trackOf : y_BL_trackOf.cls ≠ "java/lang/invoke/MethodHandle" ∧ y_BL_trackOf.cls ≠ "java/lang/invoke/VarHandle" ∧ (parseMethodDescriptor y_BL_trackOf.desc).map (fun d => d.parameters.length) = some 1 := by decide +kernel
theorem hdy_BL_used : y_BL_used.cls ≠ "java/lang/invoke/MethodHandle" ∧ y_BL_used.cls ≠ "java/lang/invoke/VarHandle" ∧ (parseMethodDescriptor y_BL_used.desc).map (fun d => d.parameters.length) = some 1 := by decide +kernel
theorem hdy_BL_writeBack : y_BL_writeBack.cls ≠ "java/lang/invoke/MethodHandle" ∧ y_BL_writeBack.cls ≠ "java/lang/invoke/VarHandle" ∧ (parseMethodDescriptor y_BL_writeBack.desc).map (fun d => d.parameters.length) = some 1 := by decide +kernel
theorem hdy_CP_init : y_CP_init.cls ≠ "java/lang/invoke/MethodHandle" ∧ y_CP_init.cls ≠ "java/lang/invoke/VarHandle" ∧ (parseMethodDescriptor y_CP_init.desc).map (fun d => d.parameters.length) = some 2 := by decide +kernel
theorem hdy_CS_at : y_CS_at.cls ≠ "java/lang/invoke/MethodHandle" ∧ y_CS_at.cls ≠ "java/lang/invoke/VarHandle" ∧ (parseMethodDescriptor y_CS_at.desc).map (fun d => d.parameters.length) = some 1 := by decide +kernel
theorem hdy_CS_clear : y_CS_clear.cls ≠ "java/lang/invoke/MethodHandle" ∧ y_CS_clear.cls ≠ "java/lang/invoke/VarHandle" ∧ (parseMethodDescriptor y_CS_clear.desc).map (fun d => d.parameters.length) = some 0 := by decide +kernel
theorem hdy_CS_copyOf : y_CS_copyOf.cls ≠ "java/lang/invoke/MethodHandle" ∧ y_CS_copyOf.cls ≠ "java/lang/invoke/VarHandle" ∧ (parseMethodDescriptor y_CS_copyOf.desc).map (fun d => d.parameters.length) = some 1 := by decide +kernel
theorem hdy_CS_dirtyOfLeastBlock : y_CS_dirtyOfLeastBlock.cls ≠ "java/lang/invoke/MethodHandle" ∧ y_CS_dirtyOfLeastBlock.cls ≠ "java/lang/invoke/VarHandle" ∧ (parseMethodDescriptor y_CS_dirtyOfLeastBlock.desc).map (fun d => d.parameters.length) = some 0 := by decide +kernel
theorem hdy_CS_init : y_CS_init.cls ≠ "java/lang/invoke/MethodHandle" ∧ y_CS_init.cls ≠ "java/lang/invoke/VarHandle" ∧ (parseMethodDescriptor y_CS_init.desc).map (fun d => d.parameters.length) = some 0 := by decide +kernel
theorem hdy_CS_putLast : y_CS_putLast.cls ≠ "java/lang/invoke/MethodHandle" ∧ y_CS_putLast.cls ≠ "java/lang/invoke/VarHandle" ∧ (parseMethodDescriptor y_CS_putLast.desc).map (fun d => d.parameters.length) = some 1 := by decide +kernel
theorem hdy_CS_size : y_CS_size.cls ≠ "java/lang/invoke/MethodHandle" ∧ y_CS_size.cls ≠ "java/lang/invoke/VarHandle" ∧ (parseMethodDescriptor y_CS_size.desc).map (fun d => d.parameters.length) = some 0 := by decide +kernel
theorem hdy_CS_takeFirst : y_CS_takeFirst.cls ≠ "java/lang/invoke/MethodHandle" ∧ y_CS_takeFirst.cls ≠ "java/lang/invoke/VarHandle" ∧ (parseMethodDescriptor y_CS_takeFirst.desc).map (fun d => d.parameters.length) = some 0 := by decide +kernel
theorem hdy_DK_beginIfIdle : y_DK_beginIfIdle.cls ≠ "java/lang/invoke/MethodHandle" ∧ y_DK_beginIfIdle.cls ≠ "java/lang/invoke/VarHandle" ∧ (parseMethodDescriptor y_DK_beginIfIdle.desc).map (fun d => d.parameters.length) = some 0 := by decide +kernel
theorem hdy_DK_chosenPlace : y_DK_chosenPlace.cls ≠ "java/lang/invoke/MethodHandle" ∧ y_DK_chosenPlace.cls ≠ "java/lang/invoke/VarHandle" ∧ (parseMethodDescriptor y_DK_chosenPlace.desc).map (fun d => d.parameters.length) = some 0 := by decide +kernel
theorem hdy_DK_end : y_DK_end.cls ≠ "java/lang/invoke/MethodHandle" ∧ y_DK_end.cls ≠ "java/lang/invoke/VarHandle" ∧ (parseMethodDescriptor y_DK_end.desc).map (fun d => d.parameters.length) = some 1 := by decide +kernel
theorem hdy_DK_hasWork : y_DK_hasWork.cls ≠ "java/lang/invoke/MethodHandle" ∧ y_DK_hasWork.cls ≠ "java/lang/invoke/VarHandle" ∧ (parseMethodDescriptor y_DK_hasWork.desc).map (fun d => d.parameters.length) = some 0 := by decide +kernel
theorem hdy_DK_init : y_DK_init.cls ≠ "java/lang/invoke/MethodHandle" ∧ y_DK_init.cls ≠ "java/lang/invoke/VarHandle" ∧ (parseMethodDescriptor y_DK_init.desc).map (fun d => d.parameters.length) = some 0 := by decide +kernel
theorem hdy_DK_isOldUnderPolicy : y_DK_isOldUnderPolicy.cls ≠ "java/lang/invoke/MethodHandle" ∧ y_DK_isOldUnderPolicy.cls ≠ "java/lang/invoke/VarHandle" ∧ (parseMethodDescriptor y_DK_isOldUnderPolicy.desc).map (fun d => d.parameters.length) = some 1 := by decide +kernel
theorem hdy_DK_loseAllButMedia : y_DK_loseAllButMedia.cls ≠ "java/lang/invoke/MethodHandle" ∧ y_DK_loseAllButMedia.cls ≠ "java/lang/invoke/VarHandle" ∧ (parseMethodDescriptor y_DK_loseAllButMedia.desc).map (fun d => d.parameters.length) = some 0 := by decide +kernel
theorem hdy_DK_moveToMedia : y_DK_moveToMedia.cls ≠ "java/lang/invoke/MethodHandle" ∧ y_DK_moveToMedia.cls ≠ "java/lang/invoke/VarHandle" ∧ (parseMethodDescriptor y_DK_moveToMedia.desc).map (fun d => d.parameters.length) = some 1 := by decide +kernel
theorem hdy_DK_nearestPlace : y_DK_nearestPlace.cls ≠ "java/lang/invoke/MethodHandle" ∧ y_DK_nearestPlace.cls ≠ "java/lang/invoke/VarHandle" ∧ (parseMethodDescriptor y_DK_nearestPlace.desc).map (fun d => d.parameters.length) = some 1 := by decide +kernel
theorem hdy_DK_pass : y_DK_pass.cls ≠ "java/lang/invoke/MethodHandle" ∧ y_DK_pass.cls ≠ "java/lang/invoke/VarHandle" ∧ (parseMethodDescriptor y_DK_pass.desc).map (fun d => d.parameters.length) = some 1 := by decide +kernel
theorem hdy_DK_passToNextEnd : y_DK_passToNextEnd.cls ≠ "java/lang/invoke/MethodHandle" ∧ y_DK_passToNextEnd.cls ≠ "java/lang/invoke/VarHandle" ∧ (parseMethodDescriptor y_DK_passToNextEnd.desc).map (fun d => d.parameters.length) = some 0 := by decide +kernel
theorem hdy_DK_passUntilEnd : y_DK_passUntilEnd.cls ≠ "java/lang/invoke/MethodHandle" ∧ y_DK_passUntilEnd.cls ≠ "java/lang/invoke/VarHandle" ∧ (parseMethodDescriptor y_DK_passUntilEnd.desc).map (fun d => d.parameters.length) = some 1 := by decide +kernel
theorem hdy_DK_sideOfPolicy : y_DK_sideOfPolicy.cls ≠ "java/lang/invoke/MethodHandle" ∧ y_DK_sideOfPolicy.cls ≠ "java/lang/invoke/VarHandle" ∧ (parseMethodDescriptor y_DK_sideOfPolicy.desc).map (fun d => d.parameters.length) = some 0 := by decide +kernel
theorem hdy_DK_tracksAway : y_DK_tracksAway.cls ≠ "java/lang/invoke/MethodHandle" ∧ y_DK_tracksAway.cls ≠ "java/lang/invoke/VarHandle" ∧ (parseMethodDescriptor y_DK_tracksAway.desc).map (fun d => d.parameters.length) = some 2 := by decide +kernel
theorem hdy_DK_valueAfterServing : y_DK_valueAfterServing.cls ≠ "java/lang/invoke/MethodHandle" ∧ y_DK_valueAfterServing.cls ≠ "java/lang/invoke/VarHandle" ∧ (parseMethodDescriptor y_DK_valueAfterServing.desc).map (fun d => d.parameters.length) = some 1 := by decide +kernel
theorem hdy_DK_valueInside : y_DK_valueInside.cls ≠ "java/lang/invoke/MethodHandle" ∧ y_DK_valueInside.cls ≠ "java/lang/invoke/VarHandle" ∧ (parseMethodDescriptor y_DK_valueInside.desc).map (fun d => d.parameters.length) = some 1 := by decide +kernel
theorem hdy_DK_valueOnMedia : y_DK_valueOnMedia.cls ≠ "java/lang/invoke/MethodHandle" ∧ y_DK_valueOnMedia.cls ≠ "java/lang/invoke/VarHandle" ∧ (parseMethodDescriptor y_DK_valueOnMedia.desc).map (fun d => d.parameters.length) = some 1 := by decide +kernel
theorem hdy_MD_ask : y_MD_ask.cls ≠ "java/lang/invoke/MethodHandle" ∧ y_MD_ask.cls ≠ "java/lang/invoke/VarHandle" ∧ (parseMethodDescriptor y_MD_ask.desc).map (fun d => d.parameters.length) = some 3 := by decide +kernel
theorem hdy_MD_beginOne : y_MD_beginOne.cls ≠ "java/lang/invoke/MethodHandle" ∧ y_MD_beginOne.cls ≠ "java/lang/invoke/VarHandle" ∧ (parseMethodDescriptor y_MD_beginOne.desc).map (fun d => d.parameters.length) = some 0 := by decide +kernel
theorem hdy_MD_buffer : y_MD_buffer.cls ≠ "java/lang/invoke/MethodHandle" ∧ y_MD_buffer.cls ≠ "java/lang/invoke/VarHandle" ∧ (parseMethodDescriptor y_MD_buffer.desc).map (fun d => d.parameters.length) = some 1 := by decide +kernel
theorem hdy_MD_bufferOf : y_MD_bufferOf.cls ≠ "java/lang/invoke/MethodHandle" ∧ y_MD_bufferOf.cls ≠ "java/lang/invoke/VarHandle" ∧ (parseMethodDescriptor y_MD_bufferOf.desc).map (fun d => d.parameters.length) = some 1 := by decide +kernel
theorem hdy_MD_cache : y_MD_cache.cls ≠ "java/lang/invoke/MethodHandle" ∧ y_MD_cache.cls ≠ "java/lang/invoke/VarHandle" ∧ (parseMethodDescriptor y_MD_cache.desc).map (fun d => d.parameters.length) = some 2 := by decide +kernel
theorem hdy_MD_chosen : y_MD_chosen.cls ≠ "java/lang/invoke/MethodHandle" ∧ y_MD_chosen.cls ≠ "java/lang/invoke/VarHandle" ∧ (parseMethodDescriptor y_MD_chosen.desc).map (fun d => d.parameters.length) = some 0 := by decide +kernel
theorem hdy_MD_closeUp : y_MD_closeUp.cls ≠ "java/lang/invoke/MethodHandle" ∧ y_MD_closeUp.cls ≠ "java/lang/invoke/VarHandle" ∧ (parseMethodDescriptor y_MD_closeUp.desc).map (fun d => d.parameters.length) = some 1 := by decide +kernel
theorem hdy_MD_copyRequest : y_MD_copyRequest.cls ≠ "java/lang/invoke/MethodHandle" ∧ y_MD_copyRequest.cls ≠ "java/lang/invoke/VarHandle" ∧ (parseMethodDescriptor y_MD_copyRequest.desc).map (fun d => d.parameters.length) = some 2 := by decide +kernel
theorem hdy_MD_crash : y_MD_crash.cls ≠ "java/lang/invoke/MethodHandle" ∧ y_MD_crash.cls ≠ "java/lang/invoke/VarHandle" ∧ (parseMethodDescriptor y_MD_crash.desc).map (fun d => d.parameters.length) = some 0 := by decide +kernel
theorem hdy_MD_distance : y_MD_distance.cls ≠ "java/lang/invoke/MethodHandle" ∧ y_MD_distance.cls ≠ "java/lang/invoke/VarHandle" ∧ (parseMethodDescriptor y_MD_distance.desc).map (fun d => d.parameters.length) = some 2 := by decide +kernel
theorem hdy_MD_drain : y_MD_drain.cls ≠ "java/lang/invoke/MethodHandle" ∧ y_MD_drain.cls ≠ "java/lang/invoke/VarHandle" ∧ (parseMethodDescriptor y_MD_drain.desc).map (fun d => d.parameters.length) = some 0 := by decide +kernel
theorem hdy_MD_endOne : y_MD_endOne.cls ≠ "java/lang/invoke/MethodHandle" ∧ y_MD_endOne.cls ≠ "java/lang/invoke/VarHandle" ∧ (parseMethodDescriptor y_MD_endOne.desc).map (fun d => d.parameters.length) = some 0 := by decide +kernel
theorem hdy_MD_init : y_MD_init.cls ≠ "java/lang/invoke/MethodHandle" ∧ y_MD_init.cls ≠ "java/lang/invoke/VarHandle" ∧ (parseMethodDescriptor y_MD_init.desc).map (fun d => d.parameters.length) = some 0 := by decide +kernel
theorem hdy_MD_isBlock : y_MD_isBlock.cls ≠ "java/lang/invoke/MethodHandle" ∧ y_MD_isBlock.cls ≠ "java/lang/invoke/VarHandle" ∧ (parseMethodDescriptor y_MD_isBlock.desc).map (fun d => d.parameters.length) = some 1 := by decide +kernel
theorem hdy_MD_isReady : y_MD_isReady.cls ≠ "java/lang/invoke/MethodHandle" ∧ y_MD_isReady.cls ≠ "java/lang/invoke/VarHandle" ∧ (parseMethodDescriptor y_MD_isReady.desc).map (fun d => d.parameters.length) = some 1 := by decide +kernel
theorem hdy_MD_load : y_MD_load.cls ≠ "java/lang/invoke/MethodHandle" ∧ y_MD_load.cls ≠ "java/lang/invoke/VarHandle" ∧ (parseMethodDescriptor y_MD_load.desc).map (fun d => d.parameters.length) = some 1 := by decide +kernel
theorem hdy_MD_lowest : y_MD_lowest.cls ≠ "java/lang/invoke/MethodHandle" ∧ y_MD_lowest.cls ≠ "java/lang/invoke/VarHandle" ∧ (parseMethodDescriptor y_MD_lowest.desc).map (fun d => d.parameters.length) = some 0 := by decide +kernel
theorem hdy_MD_makeRoom : y_MD_makeRoom.cls ≠ "java/lang/invoke/MethodHandle" ∧ y_MD_makeRoom.cls ≠ "java/lang/invoke/VarHandle" ∧ (parseMethodDescriptor y_MD_makeRoom.desc).map (fun d => d.parameters.length) = some 0 := by decide +kernel
theorem hdy_MD_media : y_MD_media.cls ≠ "java/lang/invoke/MethodHandle" ∧ y_MD_media.cls ≠ "java/lang/invoke/VarHandle" ∧ (parseMethodDescriptor y_MD_media.desc).map (fun d => d.parameters.length) = some 1 := by decide +kernel
theorem hdy_MD_nearest : y_MD_nearest.cls ≠ "java/lang/invoke/MethodHandle" ∧ y_MD_nearest.cls ≠ "java/lang/invoke/VarHandle" ∧ (parseMethodDescriptor y_MD_nearest.desc).map (fun d => d.parameters.length) = some 1 := by decide +kernel
theorem hdy_MD_newest : y_MD_newest.cls ≠ "java/lang/invoke/MethodHandle" ∧ y_MD_newest.cls ≠ "java/lang/invoke/VarHandle" ∧ (parseMethodDescriptor y_MD_newest.desc).map (fun d => d.parameters.length) = some 1 := by decide +kernel
theorem hdy_MD_newestOf : y_MD_newestOf.cls ≠ "java/lang/invoke/MethodHandle" ∧ y_MD_newestOf.cls ≠ "java/lang/invoke/VarHandle" ∧ (parseMethodDescriptor y_MD_newestOf.desc).map (fun d => d.parameters.length) = some 1 := by decide +kernel
theorem hdy_MD_policy : y_MD_policy.cls ≠ "java/lang/invoke/MethodHandle" ∧ y_MD_policy.cls ≠ "java/lang/invoke/VarHandle" ∧ (parseMethodDescriptor y_MD_policy.desc).map (fun d => d.parameters.length) = some 1 := by decide +kernel
theorem hdy_MD_putLast : y_MD_putLast.cls ≠ "java/lang/invoke/MethodHandle" ∧ y_MD_putLast.cls ≠ "java/lang/invoke/VarHandle" ∧ (parseMethodDescriptor y_MD_putLast.desc).map (fun d => d.parameters.length) = some 3 := by decide +kernel
theorem hdy_MD_queued : y_MD_queued.cls ≠ "java/lang/invoke/MethodHandle" ∧ y_MD_queued.cls ≠ "java/lang/invoke/VarHandle" ∧ (parseMethodDescriptor y_MD_queued.desc).map (fun d => d.parameters.length) = some 1 := by decide +kernel
theorem hdy_MD_request : y_MD_request.cls ≠ "java/lang/invoke/MethodHandle" ∧ y_MD_request.cls ≠ "java/lang/invoke/VarHandle" ∧ (parseMethodDescriptor y_MD_request.desc).map (fun d => d.parameters.length) = some 2 := by decide +kernel
theorem hdy_MD_save : y_MD_save.cls ≠ "java/lang/invoke/MethodHandle" ∧ y_MD_save.cls ≠ "java/lang/invoke/VarHandle" ∧ (parseMethodDescriptor y_MD_save.desc).map (fun d => d.parameters.length) = some 2 := by decide +kernel
theorem hdy_MD_step : y_MD_step.cls ≠ "java/lang/invoke/MethodHandle" ∧ y_MD_step.cls ≠ "java/lang/invoke/VarHandle" ∧ (parseMethodDescriptor y_MD_step.desc).map (fun d => d.parameters.length) = some 1 := by decide +kernel
theorem hdy_MD_sync : y_MD_sync.cls ≠ "java/lang/invoke/MethodHandle" ∧ y_MD_sync.cls ≠ "java/lang/invoke/VarHandle" ∧ (parseMethodDescriptor y_MD_sync.desc).map (fun d => d.parameters.length) = some 0 := by decide +kernel
theorem hdy_MD_thrown : y_MD_thrown.cls ≠ "java/lang/invoke/MethodHandle" ∧ y_MD_thrown.cls ≠ "java/lang/invoke/VarHandle" ∧ (parseMethodDescriptor y_MD_thrown.desc).map (fun d => d.parameters.length) = some 0 := by decide +kernel
theorem hdy_MD_told : y_MD_told.cls ≠ "java/lang/invoke/MethodHandle" ∧ y_MD_told.cls ≠ "java/lang/invoke/VarHandle" ∧ (parseMethodDescriptor y_MD_told.desc).map (fun d => d.parameters.length) = some 1 := by decide +kernel
theorem hdy_MD_track : y_MD_track.cls ≠ "java/lang/invoke/MethodHandle" ∧ y_MD_track.cls ≠ "java/lang/invoke/VarHandle" ∧ (parseMethodDescriptor y_MD_track.desc).map (fun d => d.parameters.length) = some 1 := by decide +kernel
theorem hdy_MD_used : y_MD_used.cls ≠ "java/lang/invoke/MethodHandle" ∧ y_MD_used.cls ≠ "java/lang/invoke/VarHandle" ∧ (parseMethodDescriptor y_MD_used.desc).map (fun d => d.parameters.length) = some 1 := by decide +kernel
theorem hdy_MD_valueAt : y_MD_valueAt.cls ≠ "java/lang/invoke/MethodHandle" ∧ y_MD_valueAt.cls ≠ "java/lang/invoke/VarHandle" ∧ (parseMethodDescriptor y_MD_valueAt.desc).map (fun d => d.parameters.length) = some 1 := by decide +kernel
theorem hdy_OB_checkIndex : y_OB_checkIndex.cls ≠ "java/lang/invoke/MethodHandle" ∧ y_OB_checkIndex.cls ≠ "java/lang/invoke/VarHandle" ∧ (parseMethodDescriptor y_OB_checkIndex.desc).map (fun d => d.parameters.length) = some 2 := by decide +kernel
theorem hdy_PR_checkIndex : y_PR_checkIndex.cls ≠ "java/lang/invoke/MethodHandle" ∧ y_PR_checkIndex.cls ≠ "java/lang/invoke/VarHandle" ∧ (parseMethodDescriptor y_PR_checkIndex.desc).map (fun d => d.parameters.length) = some 3 := by decide +kernel
theorem hdy_QU_absorberOf : y_QU_absorberOf.cls ≠ "java/lang/invoke/MethodHandle" ∧ y_QU_absorberOf.cls ≠ "java/lang/invoke/VarHandle" ∧ (parseMethodDescriptor y_QU_absorberOf.desc).map (fun d => d.parameters.length) = some 1 := by decide +kernel
theorem hdy_QU_add : y_QU_add.cls ≠ "java/lang/invoke/MethodHandle" ∧ y_QU_add.cls ≠ "java/lang/invoke/VarHandle" ∧ (parseMethodDescriptor y_QU_add.desc).map (fun d => d.parameters.length) = some 1 := by decide +kernel
theorem hdy_QU_at : y_QU_at.cls ≠ "java/lang/invoke/MethodHandle" ∧ y_QU_at.cls ≠ "java/lang/invoke/VarHandle" ∧ (parseMethodDescriptor y_QU_at.desc).map (fun d => d.parameters.length) = some 1 := by decide +kernel
theorem hdy_QU_clear : y_QU_clear.cls ≠ "java/lang/invoke/MethodHandle" ∧ y_QU_clear.cls ≠ "java/lang/invoke/VarHandle" ∧ (parseMethodDescriptor y_QU_clear.desc).map (fun d => d.parameters.length) = some 0 := by decide +kernel
theorem hdy_QU_init : y_QU_init.cls ≠ "java/lang/invoke/MethodHandle" ∧ y_QU_init.cls ≠ "java/lang/invoke/VarHandle" ∧ (parseMethodDescriptor y_QU_init.desc).map (fun d => d.parameters.length) = some 0 := by decide +kernel
theorem hdy_QU_isReady : y_QU_isReady.cls ≠ "java/lang/invoke/MethodHandle" ∧ y_QU_isReady.cls ≠ "java/lang/invoke/VarHandle" ∧ (parseMethodDescriptor y_QU_isReady.desc).map (fun d => d.parameters.length) = some 1 := by decide +kernel
theorem hdy_QU_lastWriteOf : y_QU_lastWriteOf.cls ≠ "java/lang/invoke/MethodHandle" ∧ y_QU_lastWriteOf.cls ≠ "java/lang/invoke/VarHandle" ∧ (parseMethodDescriptor y_QU_lastWriteOf.desc).map (fun d => d.parameters.length) = some 1 := by decide +kernel
theorem hdy_QU_ofNumber : y_QU_ofNumber.cls ≠ "java/lang/invoke/MethodHandle" ∧ y_QU_ofNumber.cls ≠ "java/lang/invoke/VarHandle" ∧ (parseMethodDescriptor y_QU_ofNumber.desc).map (fun d => d.parameters.length) = some 1 := by decide +kernel
theorem hdy_QU_size : y_QU_size.cls ≠ "java/lang/invoke/MethodHandle" ∧ y_QU_size.cls ≠ "java/lang/invoke/VarHandle" ∧ (parseMethodDescriptor y_QU_size.desc).map (fun d => d.parameters.length) = some 0 := by decide +kernel
theorem hdy_QU_take : y_QU_take.cls ≠ "java/lang/invoke/MethodHandle" ∧ y_QU_take.cls ≠ "java/lang/invoke/VarHandle" ∧ (parseMethodDescriptor y_QU_take.desc).map (fun d => d.parameters.length) = some 1 := by decide +kernel
theorem hdy_RQ_init : y_RQ_init.cls ≠ "java/lang/invoke/MethodHandle" ∧ y_RQ_init.cls ≠ "java/lang/invoke/VarHandle" ∧ (parseMethodDescriptor y_RQ_init.desc).map (fun d => d.parameters.length) = some 5 := by decide +kernel
theorem goodIn_sub' {ws : List Cond} (hm : ∀ w ∈ ws, w ∈ G) : GoodIn G ws := fun w hw => ⟨hm w hw, good_of_word (G_good w (hm w hw))⟩
theorem gB {y : MethodName} {b : ByteArray} {n : Nat} {r : Option FieldType} (h : Cond.code y b n r ∈ G) : GoodIn G (Cond.code y b n r :: G) := goodIn_sub' (List.forall_mem_cons.mpr ⟨h, fun _ z => z⟩)
theorem gV {own C : String} {i : Nat} {y : MethodName} {b : ByteArray} {n : Nat} {r : Option FieldType} (h1 : Cond.methodLink own i y ∈ G) (h2 : Cond.instanceMethod y ∈ G) (h3 : Cond.selects C y y ∈ G) (h4 : Cond.initialized C ∈ G) (h : Cond.code y b n r ∈ G) : GoodIn G (wsV own i C y (Cond.code y b n r :: G)) :=
  goodIn_sub' (List.forall_mem_cons.mpr ⟨h1, List.forall_mem_cons.mpr ⟨h2, List.forall_mem_cons.mpr ⟨h3, List.forall_mem_cons.mpr ⟨h4, List.forall_mem_cons.mpr ⟨h, fun _ z => z⟩⟩⟩⟩⟩)
theorem fhN {E : fh_E} {A : Nat → Prop} {U : State} {H : Heap} (h : fh_Z E A U H) (w : Cond) (hw : w ∈ fhNest) : va_Nw w U := h.2.2.2.2.2.1 w hw
theorem fhK {E : fh_E} {A : Nat → Prop} {U : State} {H : Heap} (h : fh_Z E A U H) (w : Cond) (hw : w ∈ fhCast) : va_Nw w U := h.2.2.2.2.2.2.1 w hw
section FHM
variable {p : Program} {l : Launch} {e : Env} {R : Room} {s : State} {m : MethodId} {args : Array Value} {below : List Frame} {meth : Method} {c : Code} {H : Heap} {locs : List Loc} {cells slots : Nat} {Q : State → Prop}
variable {cc : ByteArray} {pc : Nat} {ls : Array Slot} {rest : List Value} {D : va_G} {cl : List vw_C} {A : Nat → Prop} {a : Nat} {tys : List (ClassId × FieldType)} {h : fh_H} {H0 : Heap}
theorem fh_getS {own ref C : String} (hexec : p.tables.exec = Jvm.exec) (hb : c.code = cc) {T : u_T} {N ci index : Nat} {ty : Nat → FieldType} {Ts : List Cond} (hts : ∀ w ∈ Ts, w.before args s = true) (hC : fh_C cl ci C T N ty) (hin : ∀ w ∈ u_ws C T N, w ∈ Ts) (hown : s.vm.findClass own = some m.cls) (hK : va_K D cl tys s) (hP : fh_P D cl A h H) {fs : List Value} (he : h a = some (.inr (ci, fs))) (k : Nat) (hk : k < N) (hlink : Cond.fieldLink own index ref (T k).2.1 (T k).2.2.1 ∈ Ts) (hsame : ∀ x, s.fieldFound? (T k).1 (T k).2.1 (T k).2.2.1 = some x → s.fieldFound? ref (T k).2.1 (T k).2.2.1 = some x) {v : Value} (hv : fs[k]? = some v) (hdg : decode cc pc = .ok (.getfield index, 3))
    (kk : W p l e R s m args below meth c H locs cells slots Q (F0 m (pc + 3) ls (v :: rest))) : W p l e R s m args below meth c H locs cells slots Q (F0 m pc ls (.ref a :: rest)) := by
  obtain ⟨w, h1, h2, h3⟩ := hP
  obtain ⟨q0, hq⟩ := (h3 a _).mp he
  exact va_get hexec hb hts hin hown hK h1 q0 hq hC.1 k hk (hts _ hlink) hsame hv hdg kk
theorem fh_putS {own ref C : String} (hexec : p.tables.exec = Jvm.exec) (hb : c.code = cc) {T : u_T} {N ci index : Nat} {ty : Nat → FieldType} {Ts : List Cond} (hts : ∀ w ∈ Ts, w.before args s = true) (hC : fh_C cl ci C T N ty) (hin : ∀ w ∈ u_ws C T N, w ∈ Ts) (hown : s.vm.findClass own = some m.cls) (hK : va_K D cl tys s) (hP : fh_P D cl A h H) (hS : va_S A H0 H locs) {fs : List Value} (he : h a = some (.inr (ci, fs))) (k : Nat) (hk : k < N) (hlink : Cond.fieldLink own index ref (T k).2.1 (T k).2.2.1 ∈ Ts) (hsame : ∀ x, s.fieldFound? (T k).1 (T k).2.1 (T k).2.2.1 = some x → s.fieldFound? ref (T k).2.1 (T k).2.2.1 = some x) (hfin : (T k).2.2.2 = false) {v : Value} (hn : narrow (ty k) v = v) (hfit : fits (ty k) v = true) (hl : k < fs.length) (hdg : decode cc pc = .ok (.putfield index, 3))
    (kk : ∀ (H1 : Heap) (locs1 : List Loc), fh_P D cl A (va_up h a (some (.inr (ci, fs.set k v)))) H1 → va_S A H0 H1 locs1 → W p l e R s m args below meth c H1 locs1 cells slots Q (F0 m (pc + 3) ls rest)) : W p l e R s m args below meth c H locs cells slots Q (F0 m pc ls (v :: .ref a :: rest)) := by
  obtain ⟨w, h1, h2, h3⟩ := hP
  obtain ⟨q0, hq⟩ := (h3 a _).mp he
  exact va_put hexec hb hts hin ty hC.2.1 hC.2.2 hown hK h1 h2 hS q0 hq hC.1 k hk (hts _ hlink) hsame hfin (hC.2.1 k hk) hn hfit hl hdg (fun H1 locs1 g1 g2 g3 => kk H1 locs1 ⟨_, g1, g2, h3.set h2 hq⟩ g3)
theorem fh_zald (hexec : p.tables.exec = Jvm.exec) (hb : c.code = cc) (hK : va_K D cl tys s) (hP : fh_P D cl A h H) (t0 : Nat) {cA : ClassId} {n : Nat} {f : Nat → Int32} (ha : h a = some (.inl (cA, n, .inl f))) (ht : tys[t0]? = some (cA, .boolean)) {i : Int32} (hin : vp_in i n) (hdg : decode cc pc = .ok (.baload, 1))
    (kk : W p l e R s m args below meth c H locs cells slots Q (F0 m (pc + 1) ls (.int (f i.toNatClampNeg) :: rest))) : W p l e R s m args below meth c H locs cells slots Q (F0 m pc ls (.int i :: .ref a :: rest)) := by
  obtain ⟨w, h1, h2, h3⟩ := hP
  obtain ⟨q0, hq⟩ := (h3 a _).mp ha
  exact va_zald hexec hb hK h1 q0 t0 hq ht hin hdg kk
theorem fh_zast (hexec : p.tables.exec = Jvm.exec) (hb : c.code = cc) (hK : va_K D cl tys s) (hP : fh_P D cl A h H) (hS : va_S A H0 H locs) (t0 : Nat) {cA : ClassId} {n : Nat} {f : Nat → Int32} (ha : h a = some (.inl (cA, n, .inl f))) (ht : tys[t0]? = some (cA, .boolean)) {i x : Int32} (hin : vp_in i n) (hdg : decode cc pc = .ok (.bastore, 1))
    (kk : ∀ (H1 : Heap) (locs1 : List Loc), fh_P D cl A (va_up h a (some (.inl (cA, n, .inl (upd f i.toNatClampNeg (vp_nar .boolean x)))))) H1 → va_S A H0 H1 locs1 → W p l e R s m args below meth c H1 locs1 cells slots Q (F0 m (pc + 1) ls rest)) : W p l e R s m args below meth c H locs cells slots Q (F0 m pc ls (.int x :: .int i :: .ref a :: rest)) := by
  obtain ⟨w, h1, h2, h3⟩ := hP
  obtain ⟨q0, hq⟩ := (h3 a _).mp ha
  exact va_zast hexec hb hK h1 h2 hS q0 t0 hq ht hin hdg (fun H1 locs1 g1 g2 g3 => kk H1 locs1 ⟨_, g1, g2, h3.set h2 hq⟩ g3)
/-- a new array of ints, longs or booleans: its class is the one that the tables have -/
theorem fh_newa (hexec : p.tables.exec = Jvm.exec) (hb : c.code = cc) {atype : ArrayType} (harr : (Cond.arrayClass (newarray.typeOf atype)).before args s = true) {ty : FieldType} (hty : newarray.typeOf atype = ty) (hK : va_K D cl tys s) (hP : fh_P D cl A h H) (hS : va_S A H0 H locs) (hA : ∀ q, H0.size ≤ q → A q) (t0 : Nat) {cA : ClassId} (ht : tys[t0]? = some (cA, ty)) (huniq : ∀ c1 c2 : ClassId, va_RA s c1 ty → va_RA s c2 ty → c1 = c2)
    {n : Int32} {N' : Nat} {a0 : vp_A} (ha : ∀ cA : ClassId, vp_cell cA a0 = arrV cA N' (fun _ => defaultValue ty)) (hn : ¬ n < 0) (hN : n.toNatClampNeg = N') (hbytes : N' * componentBytes ty ≤ 536870912) (hcells : cells + 1 ≤ R.cells) (hslots : slots + N' ≤ R.slots) (hdg : decode cc pc = .ok (.newarray atype, 2))
    (kk : ∀ (q : Nat) (H1 : Heap), h q = none → fh_P D cl A (va_up h q (some (.inl (cA, a0)))) H1 → va_S A H0 H1 locs → W p l e R s m args below meth c H1 locs (cells + 1) (slots + N') Q (F0 m (pc + 2) ls (.ref q :: rest))) : W p l e R s m args below meth c H locs cells slots Q (F0 m pc ls (.int n :: rest)) := by
  obtain ⟨w, h1, h2, h3⟩ := hP
  refine va_newa hexec hb harr hty hK h1 h2 hS hA ha hn hN hbytes hcells hslots hdg (fun q cB H1 gK g1 g2 g3 => ?_)
  have e1 : cB = cA := huniq _ _ (gK.2 tys.length (cB, ty) (by simp)).2 (hK.2 t0 _ ht).2
  subst e1
  exact kk q H1 (h3.push g2).2 ⟨_, g1, g2, (h3.push g2).1⟩ g3
theorem fh_newq (hexec : p.tables.exec = Jvm.exec) (hb : c.code = cc) {own C : String} {index : Nat} (hown : s.vm.findClass own = some m.cls) (hclink : (Cond.classLink own index C).before args s = true) (hover : va_AO C s) (hK : va_K D cl tys s) (hP : fh_P D cl A h H) (hS : va_S A H0 H locs) (hA : ∀ q, H0.size ≤ q → A q) (t0 : Nat) {cA : ClassId} (ht : tys[t0]? = some (cA, .object C))
    {n : Int32} {N' : Nat} (hn : ¬ n < 0) (hN : n.toNatClampNeg = N') (hbytes : N' * 4 ≤ 536870912) (hcells : cells + 1 ≤ R.cells) (hslots : slots + N' ≤ R.slots) (hdg : decode cc pc = .ok (.anewarray index, 3))
    (kk : ∀ (q : Nat) (H1 : Heap), h q = none → fh_P D cl A (va_up h q (some (.inl (cA, N', .inr (.inr (.inr (.inr (fun _ => none)))))))) H1 → va_S A H0 H1 locs → W p l e R s m args below meth c H1 locs (cells + 1) (slots + N') Q (F0 m (pc + 3) ls (.ref q :: rest))) : W p l e R s m args below meth c H locs cells slots Q (F0 m pc ls (.int n :: rest)) := by
  obtain ⟨w, h1, h2, h3⟩ := hP
  refine va_newq hexec hb hown hclink hover hK h1 h2 hS hA hn hN hbytes hcells hslots hdg (fun q cB H1 gK g1 g2 g3 => ?_)
  have r1 := (gK.2 tys.length (cB, .object C) (by simp)).2
  have r2 := (hK.2 t0 _ ht).2
  have e1 : cB = cA := by
    obtain ⟨_, _, _, _, _, x1⟩ := r1
    obtain ⟨_, _, _, _, _, x2⟩ := r2
    exact Option.some.inj (x1.symm.trans x2)
  subst e1
  exact kk q H1 (h3.push g2).2 ⟨_, g1, g2, (h3.push g2).1⟩ g3
theorem fh_any (hK : va_K D cl tys s) (hP : fh_P D cl A h H) {ci : Nat} {r : vw_C} (hc : cl[ci]? = some r) {fs : List Value} (he : h a = some (.inr (ci, fs))) {E0 : String} (hca : va_Nw (.castable r.1 E0) s) : va_Any E0 s H a := by
  obtain ⟨w, h1, h2, h3⟩ := hP
  obtain ⟨q0, hq⟩ := (h3 a _).mp he
  exact va_rAny hK h1 hq hc (fun comp c0 z1 z2 => vb_asgC hca comp c0 z1 z2)
theorem fh_copyM (hexec : p.tables.exec = Jvm.exec) (hb : c.code = cc) (hml : c.maxLocals = ls.size) {own : String} {index : Nat} (hown : s.vm.findClass own = some m.cls) (hlink : (Cond.methodLink own index arraycopyName).before args s = true) (hnat : (Cond.native arraycopyName).before args s = true) (hstat : (Cond.static arraycopyName).before args s = true) (hini : (Cond.initialized "java/lang/System").before args s = true)
    (hK : va_K D cl tys s) (hP : fh_P D cl A h H) (hS : va_S A H0 H locs) (t0 t1 : Nat) {a0 : Nat} {c0 c1 : ClassId} {n0 n1 : Nat} {f g : Nat → Option Nat} {E0 E1 : String} (ha0 : h a0 = some (.inl (c0, n0, .inr (.inr (.inr (.inr f)))))) (ha1 : h a = some (.inl (c1, n1, .inr (.inr (.inr (.inr g)))))) (ht0 : tys[t0]? = some (c0, .object E0)) (ht1 : tys[t1]? = some (c1, .object E1))
    {sp dp n : Int32} (h1 : ¬ sp < 0) (h2 : ¬ dp < 0) (h3 : ¬ n < 0) (h4 : sp.toNatClampNeg + n.toNatClampNeg ≤ n0) (h5 : dp.toNatClampNeg + n.toNatClampNeg ≤ n1) (hel : ∀ i : Nat, i < n.toNatClampNeg → ∀ y : Nat, f (sp.toNatClampNeg + i) = some y → va_Any E1 s H y)
    (hframes : 1 ≤ R.frames) (hlocals : (rest.map fun v => v.category).sum + (nativeFrameWords "java/lang/System" "arraycopy" 5 + 11) ≤ R.locals) (hdg : decode cc pc = .ok (.invokestatic index, 3))
    (kk : ∀ (H1 : Heap) (locs1 : List Loc), fh_P D cl A (va_up h a (some (.inl (c1, n1, .inr (.inr (.inr (.inr (va_cpy f g sp.toNatClampNeg dp.toNatClampNeg n.toNatClampNeg)))))))) H1 → va_S A H0 H1 locs1 → W p l e R s m args below meth c H1 locs1 cells slots Q (F0 m (pc + 3) ls rest)) : W p l e R s m args below meth c H locs cells slots Q (F0 m pc ls (.int n :: .int dp :: .ref a :: .int sp :: .ref a0 :: rest)) := by
  obtain ⟨w, g1, g2, g3⟩ := hP
  obtain ⟨q0, hq0⟩ := (g3 a0 _).mp ha0
  obtain ⟨q1, hq1⟩ := (g3 a _).mp ha1
  exact va_copyM hexec hb hml hown hlink hnat hstat hini hK g1 g2 hS q0 q1 t0 t1 hq0 hq1 ht0 ht1 h1 h2 h3 h4 h5 hel hframes hlocals hdg (fun H1 locs1 k1 k2 k3 => kk H1 locs1 ⟨_, k1, k2, g3.set g2 hq1⟩ k3)
end FHM
section FHKN
variable {p : Program} {l : Launch} {e : Env} {R : Room} {s : State} {m : MethodId} {args : Array Value} {below : List Frame} {meth : Method} {c : Code} {H : Heap} {locs : List Loc} {cells slots : Nat} {Q : State → Prop}
variable {pc : Nat} {ls : Array Slot} {rest As : List Value} {E : fh_E} {A : Nat → Prop} {h : fh_H} {post : Option Value → fh_H → Prop}
variable {y : MethodName} {bytes cc : ByteArray} {maxL nL mc ms n index : Nat} {ret : Option FieldType} {ws : List Cond} {rm : Room} {Ts : List Cond} {own C host : String} {b : Nat}
theorem fh_callSN (S : CallFix p m c cc nL s args Ts own) (hM : fh_Met l y ws rm E As h post mc ms) (cw : va_CN R s args own index y host bytes maxL ret ws rm mc ms n ∧ (Cond.static y).before args s = true ∧ True) (hK : va_K E.1 vwCl (fh_ty E) s) (hZ : fh_Z E A s s.heap) (hP : fh_P E.1 vwCl A h H) (hS : va_S A s.heap H locs) (hA : ∀ q : Nat, s.heap.size ≤ q → A q) (hn : As.length = n) (hsize : ls.size = nL) {st0 : List Value} (hst : st0 = As.reverse ++ rest) (hW : (rest.map fun v => v.category).sum ≤ 8) (hdg : decode cc pc = .ok (.invokestatic index, 3)) (hf : cells + mc ≤ R.cells ∧ slots + ms ≤ R.slots)
    (kk : ∀ (r : Option Value) (h1 : fh_H) (H1 : Heap) (locs1 : List Loc), post r h1 → fh_P E.1 vwCl A h1 H1 → va_S A s.heap H1 locs1 → W p l e R s m args below meth c H1 locs1 (cells + mc) (slots + ms) Q (F0 m (pc + 3) ls (r.toList ++ rest))) : W p l e R s m args below meth c H locs cells slots Q (F0 m pc ls st0) := by
  subst hst
  exact fh_call (va_runSN S (hM H.size) cw (fh_preS hK hZ hP hS hA) rfl hn hsize rfl (lv_room hW) hdg hf) hP hS hA kk
theorem fh_callIN (S : CallFix p m c cc nL s args Ts own) (hM : fh_Met l y ws rm E (.ref b :: As) h post mc ms) (cw : va_CN R s args own index y host bytes maxL none ws rm mc ms n ∧ y.name = "<init>" ∧ (Cond.instanceMethod y).before args s = true) (hK : va_K E.1 vwCl (fh_ty E) s) (hZ : fh_Z E A s s.heap) (hP : fh_P E.1 vwCl A h H) (hS : va_S A s.heap H locs) (hA : ∀ q : Nat, s.heap.size ≤ q → A q) (hn : As.length = n) (hsize : ls.size = nL) {st0 : List Value} (hst : st0 = As.reverse ++ .ref b :: rest) (hW : (rest.map fun v => v.category).sum ≤ 8) (hdg : decode cc pc = .ok (.invokespecial index, 3)) (hf : cells + mc ≤ R.cells ∧ slots + ms ≤ R.slots)
    (kk : ∀ (r : Option Value) (h1 : fh_H) (H1 : Heap) (locs1 : List Loc), post r h1 → fh_P E.1 vwCl A h1 H1 → va_S A s.heap H1 locs1 → W p l e R s m args below meth c H1 locs1 (cells + mc) (slots + ms) Q (F0 m (pc + 3) ls (r.toList ++ rest))) : W p l e R s m args below meth c H locs cells slots Q (F0 m pc ls st0) := by
  subst hst
  exact fh_call (va_runIN S (hM H.size) cw (fh_preS hK hZ hP hS hA) rfl hn hsize rfl (lv_room hW) hdg hf) hP hS hA kk
end FHKN
end
section
theorem d_CP_init_0 : decode b_CP_init 0 = .ok (.aload_n 0, 1) := by decide +kernel
theorem d_CP_init_1 : decode b_CP_init 1 = .ok (.invokespecial 1, 3) := by decide +kernel
theorem d_CP_init_4 : decode b_CP_init 4 = .ok (.aload_n 0, 1) := by decide +kernel
theorem d_CP_init_5 : decode b_CP_init 5 = .ok (.iload_n 1, 1) := by decide +kernel
theorem d_CP_init_6 : decode b_CP_init 6 = .ok (.putfield 7, 3) := by decide +kernel
theorem d_CP_init_9 : decode b_CP_init 9 = .ok (.aload_n 0, 1) := by decide +kernel
theorem d_CP_init_10 : decode b_CP_init 10 = .ok (.iload_n 2, 1) := by decide +kernel
theorem d_CP_init_11 : decode b_CP_init 11 = .ok (.putfield 13, 3) := by decide +kernel
theorem d_CP_init_14 : decode b_CP_init 14 = .ok (.return_, 1) := by decide +kernel
theorem d_CS_at_0 : decode b_CS_at 0 = .ok (.iload_n 1, 1) := by decide +kernel
theorem d_CS_at_1 : decode b_CS_at 1 = .ok (.ifCond .lt 14, 3) := by decide +kernel
theorem d_CS_at_4 : decode b_CS_at 4 = .ok (.iload_n 1, 1) := by decide +kernel
theorem d_CS_at_5 : decode b_CS_at 5 = .ok (.aload_n 0, 1) := by decide +kernel
theorem d_CS_at_6 : decode b_CS_at 6 = .ok (.getfield 10, 3) := by decide +kernel
theorem d_CS_at_9 : decode b_CS_at 9 = .ok (.invokevirtual 16, 3) := by decide +kernel
theorem d_CS_at_12 : decode b_CS_at 12 = .ok (.if_icmp .lt 7, 3) := by decide +kernel
theorem d_CS_at_15 : decode b_CS_at 15 = .ok (.aconst_null, 1) := by decide +kernel
theorem d_CS_at_16 : decode b_CS_at 16 = .ok (.goto 14, 3) := by decide +kernel
theorem d_CS_at_19 : decode b_CS_at 19 = .ok (.aload_n 0, 1) := by decide +kernel
theorem d_CS_at_20 : decode b_CS_at 20 = .ok (.getfield 10, 3) := by decide +kernel
theorem d_CS_at_23 : decode b_CS_at 23 = .ok (.iload_n 1, 1) := by decide +kernel
theorem d_CS_at_24 : decode b_CS_at 24 = .ok (.invokevirtual 20, 3) := by decide +kernel
theorem d_CS_at_27 : decode b_CS_at 27 = .ok (.checkcast 24, 3) := by decide +kernel
theorem d_CS_at_30 : decode b_CS_at 30 = .ok (.areturn, 1) := by decide +kernel
theorem d_CS_clear_0 : decode b_CS_clear 0 = .ok (.aload_n 0, 1) := by decide +kernel
theorem d_CS_clear_1 : decode b_CS_clear 1 = .ok (.getfield 10, 3) := by decide +kernel
theorem d_CS_clear_4 : decode b_CS_clear 4 = .ok (.invokevirtual 45, 3) := by decide +kernel
theorem d_CS_clear_7 : decode b_CS_clear 7 = .ok (.return_, 1) := by decide +kernel
theorem d_CS_copyOf_0 : decode b_CS_copyOf 0 = .ok (.iconst 0, 1) := by decide +kernel
theorem d_CS_copyOf_1 : decode b_CS_copyOf 1 = .ok (.istore_n 2, 1) := by decide +kernel
theorem d_CS_copyOf_2 : decode b_CS_copyOf 2 = .ok (.iload_n 2, 1) := by decide +kernel
theorem d_CS_copyOf_3 : decode b_CS_copyOf 3 = .ok (.aload_n 0, 1) := by decide +kernel
theorem d_CS_copyOf_4 : decode b_CS_copyOf 4 = .ok (.getfield 10, 3) := by decide +kernel
theorem d_CS_copyOf_7 : decode b_CS_copyOf 7 = .ok (.invokevirtual 16, 3) := by decide +kernel
theorem d_CS_copyOf_10 : decode b_CS_copyOf 10 = .ok (.if_icmp .ge 39, 3) := by decide +kernel
theorem d_CS_copyOf_13 : decode b_CS_copyOf 13 = .ok (.aload_n 0, 1) := by decide +kernel
theorem d_CS_copyOf_14 : decode b_CS_copyOf 14 = .ok (.getfield 10, 3) := by decide +kernel
theorem d_CS_copyOf_17 : decode b_CS_copyOf 17 = .ok (.iload_n 2, 1) := by decide +kernel
theorem d_CS_copyOf_18 : decode b_CS_copyOf 18 = .ok (.invokevirtual 20, 3) := by decide +kernel
theorem d_CS_copyOf_21 : decode b_CS_copyOf 21 = .ok (.checkcast 24, 3) := by decide +kernel
theorem d_CS_copyOf_24 : decode b_CS_copyOf 24 = .ok (.getfield 26, 3) := by decide +kernel
theorem d_CS_copyOf_27 : decode b_CS_copyOf 27 = .ok (.iload_n 1, 1) := by decide +kernel
theorem d_CS_copyOf_28 : decode b_CS_copyOf 28 = .ok (.if_icmp .ne 15, 3) := by decide +kernel
theorem d_CS_copyOf_31 : decode b_CS_copyOf 31 = .ok (.aload_n 0, 1) := by decide +kernel
theorem d_CS_copyOf_32 : decode b_CS_copyOf 32 = .ok (.getfield 10, 3) := by decide +kernel
theorem d_CS_copyOf_35 : decode b_CS_copyOf 35 = .ok (.iload_n 2, 1) := by decide +kernel
theorem d_CS_copyOf_36 : decode b_CS_copyOf 36 = .ok (.invokevirtual 20, 3) := by decide +kernel
theorem d_CS_copyOf_39 : decode b_CS_copyOf 39 = .ok (.checkcast 24, 3) := by decide +kernel
theorem d_CS_copyOf_42 : decode b_CS_copyOf 42 = .ok (.areturn, 1) := by decide +kernel
theorem d_CS_copyOf_43 : decode b_CS_copyOf 43 = .ok (.iinc 2 1, 3) := by decide +kernel
theorem d_CS_copyOf_46 : decode b_CS_copyOf 46 = .ok (.goto (-44), 3) := by decide +kernel
theorem d_CS_copyOf_49 : decode b_CS_copyOf 49 = .ok (.aconst_null, 1) := by decide +kernel
theorem d_CS_copyOf_50 : decode b_CS_copyOf 50 = .ok (.areturn, 1) := by decide +kernel
theorem d_CS_dirtyOfLeastBlock_0 : decode b_CS_dirtyOfLeastBlock 0 = .ok (.aconst_null, 1) := by decide +kernel
theorem d_CS_dirtyOfLeastBlock_1 : decode b_CS_dirtyOfLeastBlock 1 = .ok (.astore_n 1, 1) := by decide +kernel
theorem d_CS_dirtyOfLeastBlock_2 : decode b_CS_dirtyOfLeastBlock 2 = .ok (.iconst 0, 1) := by decide +kernel
theorem d_CS_dirtyOfLeastBlock_3 : decode b_CS_dirtyOfLeastBlock 3 = .ok (.istore_n 2, 1) := by decide +kernel
theorem d_CS_dirtyOfLeastBlock_4 : decode b_CS_dirtyOfLeastBlock 4 = .ok (.iload_n 2, 1) := by decide +kernel
theorem d_CS_dirtyOfLeastBlock_5 : decode b_CS_dirtyOfLeastBlock 5 = .ok (.aload_n 0, 1) := by decide +kernel
theorem d_CS_dirtyOfLeastBlock_6 : decode b_CS_dirtyOfLeastBlock 6 = .ok (.getfield 10, 3) := by decide +kernel
theorem d_CS_dirtyOfLeastBlock_9 : decode b_CS_dirtyOfLeastBlock 9 = .ok (.invokevirtual 16, 3) := by decide +kernel
theorem d_CS_dirtyOfLeastBlock_12 : decode b_CS_dirtyOfLeastBlock 12 = .ok (.if_icmp .ge 45, 3) := by decide +kernel
theorem d_CS_dirtyOfLeastBlock_15 : decode b_CS_dirtyOfLeastBlock 15 = .ok (.aload_n 0, 1) := by decide +kernel
theorem d_CS_dirtyOfLeastBlock_16 : decode b_CS_dirtyOfLeastBlock 16 = .ok (.getfield 10, 3) := by decide +kernel
theorem d_CS_dirtyOfLeastBlock_19 : decode b_CS_dirtyOfLeastBlock 19 = .ok (.iload_n 2, 1) := by decide +kernel
theorem d_CS_dirtyOfLeastBlock_20 : decode b_CS_dirtyOfLeastBlock 20 = .ok (.invokevirtual 20, 3) := by decide +kernel
theorem d_CS_dirtyOfLeastBlock_23 : decode b_CS_dirtyOfLeastBlock 23 = .ok (.checkcast 24, 3) := by decide +kernel
theorem d_CS_dirtyOfLeastBlock_26 : decode b_CS_dirtyOfLeastBlock 26 = .ok (.astore_n 3, 1) := by decide +kernel
theorem d_CS_dirtyOfLeastBlock_27 : decode b_CS_dirtyOfLeastBlock 27 = .ok (.aload_n 3, 1) := by decide +kernel
theorem d_CS_dirtyOfLeastBlock_28 : decode b_CS_dirtyOfLeastBlock 28 = .ok (.getfield 41, 3) := by decide +kernel
theorem d_CS_dirtyOfLeastBlock_31 : decode b_CS_dirtyOfLeastBlock 31 = .ok (.ifCond .eq 20, 3) := by decide +kernel
theorem d_CS_dirtyOfLeastBlock_34 : decode b_CS_dirtyOfLeastBlock 34 = .ok (.aload_n 1, 1) := by decide +kernel
theorem d_CS_dirtyOfLeastBlock_35 : decode b_CS_dirtyOfLeastBlock 35 = .ok (.ifnull 14, 3) := by decide +kernel
theorem d_CS_dirtyOfLeastBlock_38 : decode b_CS_dirtyOfLeastBlock 38 = .ok (.aload_n 3, 1) := by decide +kernel
theorem d_CS_dirtyOfLeastBlock_39 : decode b_CS_dirtyOfLeastBlock 39 = .ok (.getfield 26, 3) := by decide +kernel
theorem d_CS_dirtyOfLeastBlock_42 : decode b_CS_dirtyOfLeastBlock 42 = .ok (.aload_n 1, 1) := by decide +kernel
theorem d_CS_dirtyOfLeastBlock_43 : decode b_CS_dirtyOfLeastBlock 43 = .ok (.getfield 26, 3) := by decide +kernel
theorem d_CS_dirtyOfLeastBlock_46 : decode b_CS_dirtyOfLeastBlock 46 = .ok (.if_icmp .ge 5, 3) := by decide +kernel
theorem d_CS_dirtyOfLeastBlock_49 : decode b_CS_dirtyOfLeastBlock 49 = .ok (.aload_n 3, 1) := by decide +kernel
theorem d_CS_dirtyOfLeastBlock_50 : decode b_CS_dirtyOfLeastBlock 50 = .ok (.astore_n 1, 1) := by decide +kernel
theorem d_CS_dirtyOfLeastBlock_51 : decode b_CS_dirtyOfLeastBlock 51 = .ok (.iinc 2 1, 3) := by decide +kernel
theorem d_CS_dirtyOfLeastBlock_54 : decode b_CS_dirtyOfLeastBlock 54 = .ok (.goto (-50), 3) := by decide +kernel
theorem d_CS_dirtyOfLeastBlock_57 : decode b_CS_dirtyOfLeastBlock 57 = .ok (.aload_n 1, 1) := by decide +kernel
theorem d_CS_dirtyOfLeastBlock_58 : decode b_CS_dirtyOfLeastBlock 58 = .ok (.areturn, 1) := by decide +kernel
theorem d_CS_init_0 : decode b_CS_init 0 = .ok (.aload_n 0, 1) := by decide +kernel
theorem d_CS_init_1 : decode b_CS_init 1 = .ok (.invokespecial 1, 3) := by decide +kernel
theorem d_CS_init_4 : decode b_CS_init 4 = .ok (.aload_n 0, 1) := by decide +kernel
theorem d_CS_init_5 : decode b_CS_init 5 = .ok (.new 7, 3) := by decide +kernel
theorem d_CS_init_8 : decode b_CS_init 8 = .ok (.dup, 1) := by decide +kernel
theorem d_CS_init_9 : decode b_CS_init 9 = .ok (.invokespecial 9, 3) := by decide +kernel
theorem d_CS_init_12 : decode b_CS_init 12 = .ok (.putfield 10, 3) := by decide +kernel
theorem d_CS_init_15 : decode b_CS_init 15 = .ok (.return_, 1) := by decide +kernel
theorem d_CS_putLast_0 : decode b_CS_putLast 0 = .ok (.iconst 0, 1) := by decide +kernel
theorem d_CS_putLast_1 : decode b_CS_putLast 1 = .ok (.istore_n 2, 1) := by decide +kernel
theorem d_CS_putLast_2 : decode b_CS_putLast 2 = .ok (.iload_n 2, 1) := by decide +kernel
theorem d_CS_putLast_3 : decode b_CS_putLast 3 = .ok (.aload_n 0, 1) := by decide +kernel
theorem d_CS_putLast_4 : decode b_CS_putLast 4 = .ok (.getfield 10, 3) := by decide +kernel
theorem d_CS_putLast_7 : decode b_CS_putLast 7 = .ok (.invokevirtual 16, 3) := by decide +kernel
theorem d_CS_putLast_10 : decode b_CS_putLast 10 = .ok (.if_icmp .ge 42, 3) := by decide +kernel
theorem d_CS_putLast_13 : decode b_CS_putLast 13 = .ok (.aload_n 0, 1) := by decide +kernel
theorem d_CS_putLast_14 : decode b_CS_putLast 14 = .ok (.getfield 10, 3) := by decide +kernel
theorem d_CS_putLast_17 : decode b_CS_putLast 17 = .ok (.iload_n 2, 1) := by decide +kernel
theorem d_CS_putLast_18 : decode b_CS_putLast 18 = .ok (.invokevirtual 20, 3) := by decide +kernel
theorem d_CS_putLast_21 : decode b_CS_putLast 21 = .ok (.checkcast 24, 3) := by decide +kernel
theorem d_CS_putLast_24 : decode b_CS_putLast 24 = .ok (.getfield 26, 3) := by decide +kernel
theorem d_CS_putLast_27 : decode b_CS_putLast 27 = .ok (.aload_n 1, 1) := by decide +kernel
theorem d_CS_putLast_28 : decode b_CS_putLast 28 = .ok (.getfield 26, 3) := by decide +kernel
theorem d_CS_putLast_31 : decode b_CS_putLast 31 = .ok (.if_icmp .ne 15, 3) := by decide +kernel
theorem d_CS_putLast_34 : decode b_CS_putLast 34 = .ok (.aload_n 0, 1) := by decide +kernel
theorem d_CS_putLast_35 : decode b_CS_putLast 35 = .ok (.getfield 10, 3) := by decide +kernel
theorem d_CS_putLast_38 : decode b_CS_putLast 38 = .ok (.iload_n 2, 1) := by decide +kernel
theorem d_CS_putLast_39 : decode b_CS_putLast 39 = .ok (.invokevirtual 30, 3) := by decide +kernel
theorem d_CS_putLast_42 : decode b_CS_putLast 42 = .ok (.pop, 1) := by decide +kernel
theorem d_CS_putLast_43 : decode b_CS_putLast 43 = .ok (.goto 9, 3) := by decide +kernel
theorem d_CS_putLast_46 : decode b_CS_putLast 46 = .ok (.iinc 2 1, 3) := by decide +kernel
theorem d_CS_putLast_49 : decode b_CS_putLast 49 = .ok (.goto (-47), 3) := by decide +kernel
theorem d_CS_putLast_52 : decode b_CS_putLast 52 = .ok (.aload_n 0, 1) := by decide +kernel
theorem d_CS_putLast_53 : decode b_CS_putLast 53 = .ok (.getfield 10, 3) := by decide +kernel
theorem d_CS_putLast_56 : decode b_CS_putLast 56 = .ok (.aload_n 1, 1) := by decide +kernel
theorem d_CS_putLast_57 : decode b_CS_putLast 57 = .ok (.invokevirtual 33, 3) := by decide +kernel
theorem d_CS_putLast_60 : decode b_CS_putLast 60 = .ok (.pop, 1) := by decide +kernel
theorem d_CS_putLast_61 : decode b_CS_putLast 61 = .ok (.return_, 1) := by decide +kernel
theorem d_CS_size_0 : decode b_CS_size 0 = .ok (.aload_n 0, 1) := by decide +kernel
theorem d_CS_size_1 : decode b_CS_size 1 = .ok (.getfield 10, 3) := by decide +kernel
theorem d_CS_size_4 : decode b_CS_size 4 = .ok (.invokevirtual 16, 3) := by decide +kernel
theorem d_CS_size_7 : decode b_CS_size 7 = .ok (.ireturn, 1) := by decide +kernel
theorem d_CS_takeFirst_0 : decode b_CS_takeFirst 0 = .ok (.aload_n 0, 1) := by decide +kernel
theorem d_CS_takeFirst_1 : decode b_CS_takeFirst 1 = .ok (.getfield 10, 3) := by decide +kernel
theorem d_CS_takeFirst_4 : decode b_CS_takeFirst 4 = .ok (.invokevirtual 37, 3) := by decide +kernel
theorem d_CS_takeFirst_7 : decode b_CS_takeFirst 7 = .ok (.ifCond .eq 7, 3) := by decide +kernel
theorem d_CS_takeFirst_10 : decode b_CS_takeFirst 10 = .ok (.aconst_null, 1) := by decide +kernel
theorem d_CS_takeFirst_11 : decode b_CS_takeFirst 11 = .ok (.goto 14, 3) := by decide +kernel
theorem d_CS_takeFirst_14 : decode b_CS_takeFirst 14 = .ok (.aload_n 0, 1) := by decide +kernel
theorem d_CS_takeFirst_15 : decode b_CS_takeFirst 15 = .ok (.getfield 10, 3) := by decide +kernel
theorem d_CS_takeFirst_18 : decode b_CS_takeFirst 18 = .ok (.iconst 0, 1) := by decide +kernel
theorem d_CS_takeFirst_19 : decode b_CS_takeFirst 19 = .ok (.invokevirtual 30, 3) := by decide +kernel
theorem d_CS_takeFirst_22 : decode b_CS_takeFirst 22 = .ok (.checkcast 24, 3) := by decide +kernel
theorem d_CS_takeFirst_25 : decode b_CS_takeFirst 25 = .ok (.areturn, 1) := by decide +kernel
theorem d_QU_absorberOf_0 : decode b_QU_absorberOf 0 = .ok (.aload_n 0, 1) := by decide +kernel
theorem d_QU_absorberOf_1 : decode b_QU_absorberOf 1 = .ok (.getfield 12, 3) := by decide +kernel
theorem d_QU_absorberOf_4 : decode b_QU_absorberOf 4 = .ok (.invokevirtual 18, 3) := by decide +kernel
theorem d_QU_absorberOf_7 : decode b_QU_absorberOf 7 = .ok (.iconst 1, 1) := by decide +kernel
theorem d_QU_absorberOf_8 : decode b_QU_absorberOf 8 = .ok (.isub, 1) := by decide +kernel
theorem d_QU_absorberOf_9 : decode b_QU_absorberOf 9 = .ok (.istore_n 2, 1) := by decide +kernel
theorem d_QU_absorberOf_10 : decode b_QU_absorberOf 10 = .ok (.iload_n 2, 1) := by decide +kernel
theorem d_QU_absorberOf_11 : decode b_QU_absorberOf 11 = .ok (.ifCond .lt 53, 3) := by decide +kernel
theorem d_QU_absorberOf_14 : decode b_QU_absorberOf 14 = .ok (.aload_n 0, 1) := by decide +kernel
theorem d_QU_absorberOf_15 : decode b_QU_absorberOf 15 = .ok (.getfield 12, 3) := by decide +kernel
theorem d_QU_absorberOf_18 : decode b_QU_absorberOf 18 = .ok (.iload_n 2, 1) := by decide +kernel
theorem d_QU_absorberOf_19 : decode b_QU_absorberOf 19 = .ok (.invokevirtual 22, 3) := by decide +kernel
theorem d_QU_absorberOf_22 : decode b_QU_absorberOf 22 = .ok (.checkcast 26, 3) := by decide +kernel
theorem d_QU_absorberOf_25 : decode b_QU_absorberOf 25 = .ok (.astore_n 3, 1) := by decide +kernel
theorem d_QU_absorberOf_26 : decode b_QU_absorberOf 26 = .ok (.aload_n 3, 1) := by decide +kernel
theorem d_QU_absorberOf_27 : decode b_QU_absorberOf 27 = .ok (.getfield 42, 3) := by decide +kernel
theorem d_QU_absorberOf_30 : decode b_QU_absorberOf 30 = .ok (.iconst 2, 1) := by decide +kernel
theorem d_QU_absorberOf_31 : decode b_QU_absorberOf 31 = .ok (.if_icmp .ne 5, 3) := by decide +kernel
theorem d_QU_absorberOf_34 : decode b_QU_absorberOf 34 = .ok (.aconst_null, 1) := by decide +kernel
theorem d_QU_absorberOf_35 : decode b_QU_absorberOf 35 = .ok (.areturn, 1) := by decide +kernel
theorem d_QU_absorberOf_36 : decode b_QU_absorberOf 36 = .ok (.aload_n 3, 1) := by decide +kernel
theorem d_QU_absorberOf_37 : decode b_QU_absorberOf 37 = .ok (.getfield 45, 3) := by decide +kernel
theorem d_QU_absorberOf_40 : decode b_QU_absorberOf 40 = .ok (.iload_n 1, 1) := by decide +kernel
theorem d_QU_absorberOf_41 : decode b_QU_absorberOf 41 = .ok (.if_icmp .ne 17, 3) := by decide +kernel
theorem d_QU_absorberOf_44 : decode b_QU_absorberOf 44 = .ok (.aload_n 3, 1) := by decide +kernel
theorem d_QU_absorberOf_45 : decode b_QU_absorberOf 45 = .ok (.getfield 42, 3) := by decide +kernel
theorem d_QU_absorberOf_48 : decode b_QU_absorberOf 48 = .ok (.iconst 1, 1) := by decide +kernel
theorem d_QU_absorberOf_49 : decode b_QU_absorberOf 49 = .ok (.if_icmp .ne 7, 3) := by decide +kernel
theorem d_QU_absorberOf_52 : decode b_QU_absorberOf 52 = .ok (.aload_n 3, 1) := by decide +kernel
theorem d_QU_absorberOf_53 : decode b_QU_absorberOf 53 = .ok (.goto 4, 3) := by decide +kernel
theorem d_QU_absorberOf_56 : decode b_QU_absorberOf 56 = .ok (.aconst_null, 1) := by decide +kernel
theorem d_QU_absorberOf_57 : decode b_QU_absorberOf 57 = .ok (.areturn, 1) := by decide +kernel
theorem d_QU_absorberOf_58 : decode b_QU_absorberOf 58 = .ok (.iinc 2 (-1), 3) := by decide +kernel
theorem d_QU_absorberOf_61 : decode b_QU_absorberOf 61 = .ok (.goto (-51), 3) := by decide +kernel
theorem d_QU_absorberOf_64 : decode b_QU_absorberOf 64 = .ok (.aconst_null, 1) := by decide +kernel
theorem d_QU_absorberOf_65 : decode b_QU_absorberOf 65 = .ok (.areturn, 1) := by decide +kernel
theorem d_QU_add_0 : decode b_QU_add 0 = .ok (.aload_n 0, 1) := by decide +kernel
theorem d_QU_add_1 : decode b_QU_add 1 = .ok (.getfield 12, 3) := by decide +kernel
theorem d_QU_add_4 : decode b_QU_add 4 = .ok (.aload_n 1, 1) := by decide +kernel
theorem d_QU_add_5 : decode b_QU_add 5 = .ok (.invokevirtual 28, 3) := by decide +kernel
theorem d_QU_add_8 : decode b_QU_add 8 = .ok (.pop, 1) := by decide +kernel
theorem d_QU_add_9 : decode b_QU_add 9 = .ok (.return_, 1) := by decide +kernel
theorem d_QU_at_0 : decode b_QU_at 0 = .ok (.iload_n 1, 1) := by decide +kernel
theorem d_QU_at_1 : decode b_QU_at 1 = .ok (.ifCond .lt 14, 3) := by decide +kernel
theorem d_QU_at_4 : decode b_QU_at 4 = .ok (.iload_n 1, 1) := by decide +kernel
theorem d_QU_at_5 : decode b_QU_at 5 = .ok (.aload_n 0, 1) := by decide +kernel
theorem d_QU_at_6 : decode b_QU_at 6 = .ok (.getfield 12, 3) := by decide +kernel
theorem d_QU_at_9 : decode b_QU_at 9 = .ok (.invokevirtual 18, 3) := by decide +kernel
theorem d_QU_at_12 : decode b_QU_at 12 = .ok (.if_icmp .lt 7, 3) := by decide +kernel
theorem d_QU_at_15 : decode b_QU_at 15 = .ok (.aconst_null, 1) := by decide +kernel
theorem d_QU_at_16 : decode b_QU_at 16 = .ok (.goto 14, 3) := by decide +kernel
theorem d_QU_at_19 : decode b_QU_at 19 = .ok (.aload_n 0, 1) := by decide +kernel
theorem d_QU_at_20 : decode b_QU_at 20 = .ok (.getfield 12, 3) := by decide +kernel
theorem d_QU_at_23 : decode b_QU_at 23 = .ok (.iload_n 1, 1) := by decide +kernel
theorem d_QU_at_24 : decode b_QU_at 24 = .ok (.invokevirtual 22, 3) := by decide +kernel
theorem d_QU_at_27 : decode b_QU_at 27 = .ok (.checkcast 26, 3) := by decide +kernel
theorem d_QU_at_30 : decode b_QU_at 30 = .ok (.areturn, 1) := by decide +kernel
theorem d_QU_clear_0 : decode b_QU_clear 0 = .ok (.aload_n 0, 1) := by decide +kernel
theorem d_QU_clear_1 : decode b_QU_clear 1 = .ok (.getfield 12, 3) := by decide +kernel
theorem d_QU_clear_4 : decode b_QU_clear 4 = .ok (.invokevirtual 35, 3) := by decide +kernel
theorem d_QU_clear_7 : decode b_QU_clear 7 = .ok (.return_, 1) := by decide +kernel
theorem d_QU_init_0 : decode b_QU_init 0 = .ok (.aload_n 0, 1) := by decide +kernel
theorem d_QU_init_1 : decode b_QU_init 1 = .ok (.invokespecial 3, 3) := by decide +kernel
theorem d_QU_init_4 : decode b_QU_init 4 = .ok (.aload_n 0, 1) := by decide +kernel
theorem d_QU_init_5 : decode b_QU_init 5 = .ok (.new 9, 3) := by decide +kernel
theorem d_QU_init_8 : decode b_QU_init 8 = .ok (.dup, 1) := by decide +kernel
theorem d_QU_init_9 : decode b_QU_init 9 = .ok (.invokespecial 11, 3) := by decide +kernel
theorem d_QU_init_12 : decode b_QU_init 12 = .ok (.putfield 12, 3) := by decide +kernel
theorem d_QU_init_15 : decode b_QU_init 15 = .ok (.return_, 1) := by decide +kernel
theorem d_QU_isReady_0 : decode b_QU_isReady 0 = .ok (.iload_n 1, 1) := by decide +kernel
theorem d_QU_isReady_1 : decode b_QU_isReady 1 = .ok (.ifCond .lt 14, 3) := by decide +kernel
theorem d_QU_isReady_4 : decode b_QU_isReady 4 = .ok (.iload_n 1, 1) := by decide +kernel
theorem d_QU_isReady_5 : decode b_QU_isReady 5 = .ok (.aload_n 0, 1) := by decide +kernel
theorem d_QU_isReady_6 : decode b_QU_isReady 6 = .ok (.getfield 12, 3) := by decide +kernel
theorem d_QU_isReady_9 : decode b_QU_isReady 9 = .ok (.invokevirtual 18, 3) := by decide +kernel
theorem d_QU_isReady_12 : decode b_QU_isReady 12 = .ok (.if_icmp .lt 5, 3) := by decide +kernel
theorem d_QU_isReady_15 : decode b_QU_isReady 15 = .ok (.iconst 0, 1) := by decide +kernel
theorem d_QU_isReady_16 : decode b_QU_isReady 16 = .ok (.ireturn, 1) := by decide +kernel
theorem d_QU_isReady_17 : decode b_QU_isReady 17 = .ok (.aload_n 0, 1) := by decide +kernel
theorem d_QU_isReady_18 : decode b_QU_isReady 18 = .ok (.getfield 12, 3) := by decide +kernel
theorem d_QU_isReady_21 : decode b_QU_isReady 21 = .ok (.iload_n 1, 1) := by decide +kernel
theorem d_QU_isReady_22 : decode b_QU_isReady 22 = .ok (.invokevirtual 22, 3) := by decide +kernel
theorem d_QU_isReady_25 : decode b_QU_isReady 25 = .ok (.checkcast 26, 3) := by decide +kernel
theorem d_QU_isReady_28 : decode b_QU_isReady 28 = .ok (.astore_n 2, 1) := by decide +kernel
theorem d_QU_isReady_29 : decode b_QU_isReady 29 = .ok (.aload_n 2, 1) := by decide +kernel
theorem d_QU_isReady_30 : decode b_QU_isReady 30 = .ok (.getfield 42, 3) := by decide +kernel
theorem d_QU_isReady_33 : decode b_QU_isReady 33 = .ok (.iconst 2, 1) := by decide +kernel
theorem d_QU_isReady_34 : decode b_QU_isReady 34 = .ok (.if_icmp .ne 13, 3) := by decide +kernel
theorem d_QU_isReady_37 : decode b_QU_isReady 37 = .ok (.iload_n 1, 1) := by decide +kernel
theorem d_QU_isReady_38 : decode b_QU_isReady 38 = .ok (.ifCond .ne 7, 3) := by decide +kernel
theorem d_QU_isReady_41 : decode b_QU_isReady 41 = .ok (.iconst 1, 1) := by decide +kernel
theorem d_QU_isReady_42 : decode b_QU_isReady 42 = .ok (.goto 4, 3) := by decide +kernel
theorem d_QU_isReady_45 : decode b_QU_isReady 45 = .ok (.iconst 0, 1) := by decide +kernel
theorem d_QU_isReady_46 : decode b_QU_isReady 46 = .ok (.ireturn, 1) := by decide +kernel
theorem d_QU_isReady_47 : decode b_QU_isReady 47 = .ok (.iconst 0, 1) := by decide +kernel
theorem d_QU_isReady_48 : decode b_QU_isReady 48 = .ok (.istore_n 3, 1) := by decide +kernel
theorem d_QU_isReady_49 : decode b_QU_isReady 49 = .ok (.iload_n 3, 1) := by decide +kernel
theorem d_QU_isReady_50 : decode b_QU_isReady 50 = .ok (.iload_n 1, 1) := by decide +kernel
theorem d_QU_isReady_51 : decode b_QU_isReady 51 = .ok (.if_icmp .ge 45, 3) := by decide +kernel
theorem d_QU_isReady_54 : decode b_QU_isReady 54 = .ok (.aload_n 0, 1) := by decide +kernel
theorem d_QU_isReady_55 : decode b_QU_isReady 55 = .ok (.getfield 12, 3) := by decide +kernel
theorem d_QU_isReady_58 : decode b_QU_isReady 58 = .ok (.iload_n 3, 1) := by decide +kernel
theorem d_QU_isReady_59 : decode b_QU_isReady 59 = .ok (.invokevirtual 22, 3) := by decide +kernel
theorem d_QU_isReady_62 : decode b_QU_isReady 62 = .ok (.checkcast 26, 3) := by decide +kernel
theorem d_QU_isReady_65 : decode b_QU_isReady 65 = .ok (.astore 4, 2) := by decide +kernel
theorem d_QU_isReady_67 : decode b_QU_isReady 67 = .ok (.aload 4, 2) := by decide +kernel
theorem d_QU_isReady_69 : decode b_QU_isReady 69 = .ok (.getfield 42, 3) := by decide +kernel
theorem d_QU_isReady_72 : decode b_QU_isReady 72 = .ok (.iconst 2, 1) := by decide +kernel
theorem d_QU_isReady_73 : decode b_QU_isReady 73 = .ok (.if_icmp .eq 15, 3) := by decide +kernel
theorem d_QU_isReady_76 : decode b_QU_isReady 76 = .ok (.aload 4, 2) := by decide +kernel
theorem d_QU_isReady_78 : decode b_QU_isReady 78 = .ok (.getfield 45, 3) := by decide +kernel
theorem d_QU_isReady_81 : decode b_QU_isReady 81 = .ok (.aload_n 2, 1) := by decide +kernel
theorem d_QU_isReady_82 : decode b_QU_isReady 82 = .ok (.getfield 45, 3) := by decide +kernel
theorem d_QU_isReady_85 : decode b_QU_isReady 85 = .ok (.if_icmp .ne 5, 3) := by decide +kernel
theorem d_QU_isReady_88 : decode b_QU_isReady 88 = .ok (.iconst 0, 1) := by decide +kernel
theorem d_QU_isReady_89 : decode b_QU_isReady 89 = .ok (.ireturn, 1) := by decide +kernel
theorem d_QU_isReady_90 : decode b_QU_isReady 90 = .ok (.iinc 3 1, 3) := by decide +kernel
theorem d_QU_isReady_93 : decode b_QU_isReady 93 = .ok (.goto (-44), 3) := by decide +kernel
theorem d_QU_isReady_96 : decode b_QU_isReady 96 = .ok (.iconst 1, 1) := by decide +kernel
theorem d_QU_isReady_97 : decode b_QU_isReady 97 = .ok (.ireturn, 1) := by decide +kernel
theorem d_QU_lastWriteOf_0 : decode b_QU_lastWriteOf 0 = .ok (.aload_n 0, 1) := by decide +kernel
theorem d_QU_lastWriteOf_1 : decode b_QU_lastWriteOf 1 = .ok (.getfield 12, 3) := by decide +kernel
theorem d_QU_lastWriteOf_4 : decode b_QU_lastWriteOf 4 = .ok (.invokevirtual 18, 3) := by decide +kernel
theorem d_QU_lastWriteOf_7 : decode b_QU_lastWriteOf 7 = .ok (.iconst 1, 1) := by decide +kernel
theorem d_QU_lastWriteOf_8 : decode b_QU_lastWriteOf 8 = .ok (.isub, 1) := by decide +kernel
theorem d_QU_lastWriteOf_9 : decode b_QU_lastWriteOf 9 = .ok (.istore_n 2, 1) := by decide +kernel
theorem d_QU_lastWriteOf_10 : decode b_QU_lastWriteOf 10 = .ok (.iload_n 2, 1) := by decide +kernel
theorem d_QU_lastWriteOf_11 : decode b_QU_lastWriteOf 11 = .ok (.ifCond .lt 39, 3) := by decide +kernel
theorem d_QU_lastWriteOf_14 : decode b_QU_lastWriteOf 14 = .ok (.aload_n 0, 1) := by decide +kernel
theorem d_QU_lastWriteOf_15 : decode b_QU_lastWriteOf 15 = .ok (.getfield 12, 3) := by decide +kernel
theorem d_QU_lastWriteOf_18 : decode b_QU_lastWriteOf 18 = .ok (.iload_n 2, 1) := by decide +kernel
theorem d_QU_lastWriteOf_19 : decode b_QU_lastWriteOf 19 = .ok (.invokevirtual 22, 3) := by decide +kernel
theorem d_QU_lastWriteOf_22 : decode b_QU_lastWriteOf 22 = .ok (.checkcast 26, 3) := by decide +kernel
theorem d_QU_lastWriteOf_25 : decode b_QU_lastWriteOf 25 = .ok (.astore_n 3, 1) := by decide +kernel
theorem d_QU_lastWriteOf_26 : decode b_QU_lastWriteOf 26 = .ok (.aload_n 3, 1) := by decide +kernel
theorem d_QU_lastWriteOf_27 : decode b_QU_lastWriteOf 27 = .ok (.getfield 42, 3) := by decide +kernel
theorem d_QU_lastWriteOf_30 : decode b_QU_lastWriteOf 30 = .ok (.iconst 1, 1) := by decide +kernel
theorem d_QU_lastWriteOf_31 : decode b_QU_lastWriteOf 31 = .ok (.if_icmp .ne 13, 3) := by decide +kernel
theorem d_QU_lastWriteOf_34 : decode b_QU_lastWriteOf 34 = .ok (.aload_n 3, 1) := by decide +kernel
theorem d_QU_lastWriteOf_35 : decode b_QU_lastWriteOf 35 = .ok (.getfield 45, 3) := by decide +kernel
theorem d_QU_lastWriteOf_38 : decode b_QU_lastWriteOf 38 = .ok (.iload_n 1, 1) := by decide +kernel
theorem d_QU_lastWriteOf_39 : decode b_QU_lastWriteOf 39 = .ok (.if_icmp .ne 5, 3) := by decide +kernel
theorem d_QU_lastWriteOf_42 : decode b_QU_lastWriteOf 42 = .ok (.aload_n 3, 1) := by decide +kernel
theorem d_QU_lastWriteOf_43 : decode b_QU_lastWriteOf 43 = .ok (.areturn, 1) := by decide +kernel
theorem d_QU_lastWriteOf_44 : decode b_QU_lastWriteOf 44 = .ok (.iinc 2 (-1), 3) := by decide +kernel
theorem d_QU_lastWriteOf_47 : decode b_QU_lastWriteOf 47 = .ok (.goto (-37), 3) := by decide +kernel
theorem d_QU_lastWriteOf_50 : decode b_QU_lastWriteOf 50 = .ok (.aconst_null, 1) := by decide +kernel
theorem d_QU_lastWriteOf_51 : decode b_QU_lastWriteOf 51 = .ok (.areturn, 1) := by decide +kernel
theorem d_QU_ofNumber_0 : decode b_QU_ofNumber 0 = .ok (.iconst 0, 1) := by decide +kernel
theorem d_QU_ofNumber_1 : decode b_QU_ofNumber 1 = .ok (.istore_n 2, 1) := by decide +kernel
theorem d_QU_ofNumber_2 : decode b_QU_ofNumber 2 = .ok (.iload_n 2, 1) := by decide +kernel
theorem d_QU_ofNumber_3 : decode b_QU_ofNumber 3 = .ok (.aload_n 0, 1) := by decide +kernel
theorem d_QU_ofNumber_4 : decode b_QU_ofNumber 4 = .ok (.getfield 12, 3) := by decide +kernel
theorem d_QU_ofNumber_7 : decode b_QU_ofNumber 7 = .ok (.invokevirtual 18, 3) := by decide +kernel
theorem d_QU_ofNumber_10 : decode b_QU_ofNumber 10 = .ok (.if_icmp .ge 39, 3) := by decide +kernel
theorem d_QU_ofNumber_13 : decode b_QU_ofNumber 13 = .ok (.aload_n 0, 1) := by decide +kernel
theorem d_QU_ofNumber_14 : decode b_QU_ofNumber 14 = .ok (.getfield 12, 3) := by decide +kernel
theorem d_QU_ofNumber_17 : decode b_QU_ofNumber 17 = .ok (.iload_n 2, 1) := by decide +kernel
theorem d_QU_ofNumber_18 : decode b_QU_ofNumber 18 = .ok (.invokevirtual 22, 3) := by decide +kernel
theorem d_QU_ofNumber_21 : decode b_QU_ofNumber 21 = .ok (.checkcast 26, 3) := by decide +kernel
theorem d_QU_ofNumber_24 : decode b_QU_ofNumber 24 = .ok (.getfield 38, 3) := by decide +kernel
theorem d_QU_ofNumber_27 : decode b_QU_ofNumber 27 = .ok (.iload_n 1, 1) := by decide +kernel
theorem d_QU_ofNumber_28 : decode b_QU_ofNumber 28 = .ok (.if_icmp .ne 15, 3) := by decide +kernel
theorem d_QU_ofNumber_31 : decode b_QU_ofNumber 31 = .ok (.aload_n 0, 1) := by decide +kernel
theorem d_QU_ofNumber_32 : decode b_QU_ofNumber 32 = .ok (.getfield 12, 3) := by decide +kernel
theorem d_QU_ofNumber_35 : decode b_QU_ofNumber 35 = .ok (.iload_n 2, 1) := by decide +kernel
theorem d_QU_ofNumber_36 : decode b_QU_ofNumber 36 = .ok (.invokevirtual 22, 3) := by decide +kernel
theorem d_QU_ofNumber_39 : decode b_QU_ofNumber 39 = .ok (.checkcast 26, 3) := by decide +kernel
theorem d_QU_ofNumber_42 : decode b_QU_ofNumber 42 = .ok (.areturn, 1) := by decide +kernel
theorem d_QU_ofNumber_43 : decode b_QU_ofNumber 43 = .ok (.iinc 2 1, 3) := by decide +kernel
theorem d_QU_ofNumber_46 : decode b_QU_ofNumber 46 = .ok (.goto (-44), 3) := by decide +kernel
theorem d_QU_ofNumber_49 : decode b_QU_ofNumber 49 = .ok (.aconst_null, 1) := by decide +kernel
theorem d_QU_ofNumber_50 : decode b_QU_ofNumber 50 = .ok (.areturn, 1) := by decide +kernel
theorem d_QU_size_0 : decode b_QU_size 0 = .ok (.aload_n 0, 1) := by decide +kernel
theorem d_QU_size_1 : decode b_QU_size 1 = .ok (.getfield 12, 3) := by decide +kernel
theorem d_QU_size_4 : decode b_QU_size 4 = .ok (.invokevirtual 18, 3) := by decide +kernel
theorem d_QU_size_7 : decode b_QU_size 7 = .ok (.ireturn, 1) := by decide +kernel
theorem d_QU_take_0 : decode b_QU_take 0 = .ok (.iload_n 1, 1) := by decide +kernel
theorem d_QU_take_1 : decode b_QU_take 1 = .ok (.ifCond .lt 14, 3) := by decide +kernel
theorem d_QU_take_4 : decode b_QU_take 4 = .ok (.iload_n 1, 1) := by decide +kernel
theorem d_QU_take_5 : decode b_QU_take 5 = .ok (.aload_n 0, 1) := by decide +kernel
theorem d_QU_take_6 : decode b_QU_take 6 = .ok (.getfield 12, 3) := by decide +kernel
theorem d_QU_take_9 : decode b_QU_take 9 = .ok (.invokevirtual 18, 3) := by decide +kernel
theorem d_QU_take_12 : decode b_QU_take 12 = .ok (.if_icmp .lt 7, 3) := by decide +kernel
theorem d_QU_take_15 : decode b_QU_take 15 = .ok (.aconst_null, 1) := by decide +kernel
theorem d_QU_take_16 : decode b_QU_take 16 = .ok (.goto 14, 3) := by decide +kernel
theorem d_QU_take_19 : decode b_QU_take 19 = .ok (.aload_n 0, 1) := by decide +kernel
theorem d_QU_take_20 : decode b_QU_take 20 = .ok (.getfield 12, 3) := by decide +kernel
theorem d_QU_take_23 : decode b_QU_take 23 = .ok (.iload_n 1, 1) := by decide +kernel
theorem d_QU_take_24 : decode b_QU_take 24 = .ok (.invokevirtual 32, 3) := by decide +kernel
theorem d_QU_take_27 : decode b_QU_take 27 = .ok (.checkcast 26, 3) := by decide +kernel
theorem d_QU_take_30 : decode b_QU_take 30 = .ok (.areturn, 1) := by decide +kernel
theorem d_RQ_init_0 : decode b_RQ_init 0 = .ok (.aload_n 0, 1) := by decide +kernel
theorem d_RQ_init_1 : decode b_RQ_init 1 = .ok (.invokespecial 1, 3) := by decide +kernel
theorem d_RQ_init_4 : decode b_RQ_init 4 = .ok (.aload_n 0, 1) := by decide +kernel
theorem d_RQ_init_5 : decode b_RQ_init 5 = .ok (.iload_n 1, 1) := by decide +kernel
theorem d_RQ_init_6 : decode b_RQ_init 6 = .ok (.putfield 7, 3) := by decide +kernel
theorem d_RQ_init_9 : decode b_RQ_init 9 = .ok (.aload_n 0, 1) := by decide +kernel
theorem d_RQ_init_10 : decode b_RQ_init 10 = .ok (.iload_n 2, 1) := by decide +kernel
theorem d_RQ_init_11 : decode b_RQ_init 11 = .ok (.putfield 13, 3) := by decide +kernel
theorem d_RQ_init_14 : decode b_RQ_init 14 = .ok (.aload_n 0, 1) := by decide +kernel
theorem d_RQ_init_15 : decode b_RQ_init 15 = .ok (.iload_n 3, 1) := by decide +kernel
theorem d_RQ_init_16 : decode b_RQ_init 16 = .ok (.putfield 16, 3) := by decide +kernel
theorem d_RQ_init_19 : decode b_RQ_init 19 = .ok (.aload_n 0, 1) := by decide +kernel
theorem d_RQ_init_20 : decode b_RQ_init 20 = .ok (.iload 4, 2) := by decide +kernel
theorem d_RQ_init_22 : decode b_RQ_init 22 = .ok (.putfield 19, 3) := by decide +kernel
theorem d_RQ_init_25 : decode b_RQ_init 25 = .ok (.aload_n 0, 1) := by decide +kernel
theorem d_RQ_init_26 : decode b_RQ_init 26 = .ok (.iload 5, 2) := by decide +kernel
theorem d_RQ_init_28 : decode b_RQ_init 28 = .ok (.putfield 22, 3) := by decide +kernel
theorem d_RQ_init_31 : decode b_RQ_init 31 = .ok (.return_, 1) := by decide +kernel
end
section
theorem d_DK_beginIfIdle_0 : decode b_DK_beginIfIdle 0 = .ok (.aload_n 0, 1) := by decide +kernel
theorem d_DK_beginIfIdle_1 : decode b_DK_beginIfIdle 1 = .ok (.getfield 37, 3) := by decide +kernel
theorem d_DK_beginIfIdle_4 : decode b_DK_beginIfIdle 4 = .ok (.ifnull 4, 3) := by decide +kernel
theorem d_DK_beginIfIdle_7 : decode b_DK_beginIfIdle 7 = .ok (.return_, 1) := by decide +kernel
theorem d_DK_beginIfIdle_8 : decode b_DK_beginIfIdle 8 = .ok (.aload_n 0, 1) := by decide +kernel
theorem d_DK_beginIfIdle_9 : decode b_DK_beginIfIdle 9 = .ok (.getfield 12, 3) := by decide +kernel
theorem d_DK_beginIfIdle_12 : decode b_DK_beginIfIdle 12 = .ok (.aload_n 0, 1) := by decide +kernel
theorem d_DK_beginIfIdle_13 : decode b_DK_beginIfIdle 13 = .ok (.invokevirtual 98, 3) := by decide +kernel
theorem d_DK_beginIfIdle_16 : decode b_DK_beginIfIdle 16 = .ok (.invokevirtual 101, 3) := by decide +kernel
theorem d_DK_beginIfIdle_19 : decode b_DK_beginIfIdle 19 = .ok (.astore_n 1, 1) := by decide +kernel
theorem d_DK_beginIfIdle_20 : decode b_DK_beginIfIdle 20 = .ok (.aload_n 1, 1) := by decide +kernel
theorem d_DK_beginIfIdle_21 : decode b_DK_beginIfIdle 21 = .ok (.ifnonnull 4, 3) := by decide +kernel
theorem d_DK_beginIfIdle_24 : decode b_DK_beginIfIdle 24 = .ok (.return_, 1) := by decide +kernel
theorem d_DK_beginIfIdle_25 : decode b_DK_beginIfIdle 25 = .ok (.aload_n 1, 1) := by decide +kernel
theorem d_DK_beginIfIdle_26 : decode b_DK_beginIfIdle 26 = .ok (.getfield 55, 3) := by decide +kernel
theorem d_DK_beginIfIdle_29 : decode b_DK_beginIfIdle 29 = .ok (.iconst 2, 1) := by decide +kernel
theorem d_DK_beginIfIdle_30 : decode b_DK_beginIfIdle 30 = .ok (.if_icmp .ne 19, 3) := by decide +kernel
theorem d_DK_beginIfIdle_33 : decode b_DK_beginIfIdle 33 = .ok (.aload_n 0, 1) := by decide +kernel
theorem d_DK_beginIfIdle_34 : decode b_DK_beginIfIdle 34 = .ok (.aload_n 0, 1) := by decide +kernel
theorem d_DK_beginIfIdle_35 : decode b_DK_beginIfIdle 35 = .ok (.getfield 25, 3) := by decide +kernel
theorem d_DK_beginIfIdle_38 : decode b_DK_beginIfIdle 38 = .ok (.invokevirtual 105, 3) := by decide +kernel
theorem d_DK_beginIfIdle_41 : decode b_DK_beginIfIdle 41 = .ok (.iconst 1, 1) := by decide +kernel
theorem d_DK_beginIfIdle_42 : decode b_DK_beginIfIdle 42 = .ok (.iadd, 1) := by decide +kernel
theorem d_DK_beginIfIdle_43 : decode b_DK_beginIfIdle 43 = .ok (.putfield 52, 3) := by decide +kernel
theorem d_DK_beginIfIdle_46 : decode b_DK_beginIfIdle 46 = .ok (.goto 31, 3) := by decide +kernel
theorem d_DK_beginIfIdle_49 : decode b_DK_beginIfIdle 49 = .ok (.aload_n 1, 1) := by decide +kernel
theorem d_DK_beginIfIdle_50 : decode b_DK_beginIfIdle 50 = .ok (.getfield 60, 3) := by decide +kernel
theorem d_DK_beginIfIdle_53 : decode b_DK_beginIfIdle 53 = .ok (.invokestatic 106, 3) := by decide +kernel
theorem d_DK_beginIfIdle_56 : decode b_DK_beginIfIdle 56 = .ok (.istore_n 2, 1) := by decide +kernel
theorem d_DK_beginIfIdle_57 : decode b_DK_beginIfIdle 57 = .ok (.aload_n 0, 1) := by decide +kernel
theorem d_DK_beginIfIdle_58 : decode b_DK_beginIfIdle 58 = .ok (.iload_n 2, 1) := by decide +kernel
theorem d_DK_beginIfIdle_59 : decode b_DK_beginIfIdle 59 = .ok (.aload_n 0, 1) := by decide +kernel
theorem d_DK_beginIfIdle_60 : decode b_DK_beginIfIdle 60 = .ok (.getfield 72, 3) := by decide +kernel
theorem d_DK_beginIfIdle_63 : decode b_DK_beginIfIdle 63 = .ok (.isub, 1) := by decide +kernel
theorem d_DK_beginIfIdle_64 : decode b_DK_beginIfIdle 64 = .ok (.invokestatic 109, 3) := by decide +kernel
theorem d_DK_beginIfIdle_67 : decode b_DK_beginIfIdle 67 = .ok (.iconst 2, 1) := by decide +kernel
theorem d_DK_beginIfIdle_68 : decode b_DK_beginIfIdle 68 = .ok (.iadd, 1) := by decide +kernel
theorem d_DK_beginIfIdle_69 : decode b_DK_beginIfIdle 69 = .ok (.putfield 52, 3) := by decide +kernel
theorem d_DK_beginIfIdle_72 : decode b_DK_beginIfIdle 72 = .ok (.aload_n 0, 1) := by decide +kernel
theorem d_DK_beginIfIdle_73 : decode b_DK_beginIfIdle 73 = .ok (.iload_n 2, 1) := by decide +kernel
theorem d_DK_beginIfIdle_74 : decode b_DK_beginIfIdle 74 = .ok (.putfield 72, 3) := by decide +kernel
theorem d_DK_beginIfIdle_77 : decode b_DK_beginIfIdle 77 = .ok (.aload_n 0, 1) := by decide +kernel
theorem d_DK_beginIfIdle_78 : decode b_DK_beginIfIdle 78 = .ok (.aload_n 1, 1) := by decide +kernel
theorem d_DK_beginIfIdle_79 : decode b_DK_beginIfIdle 79 = .ok (.putfield 37, 3) := by decide +kernel
theorem d_DK_beginIfIdle_82 : decode b_DK_beginIfIdle 82 = .ok (.return_, 1) := by decide +kernel
theorem d_DK_chosenPlace_0 : decode b_DK_chosenPlace 0 = .ok (.aload_n 0, 1) := by decide +kernel
theorem d_DK_chosenPlace_1 : decode b_DK_chosenPlace 1 = .ok (.getfield 12, 3) := by decide +kernel
theorem d_DK_chosenPlace_4 : decode b_DK_chosenPlace 4 = .ok (.iconst 0, 1) := by decide +kernel
theorem d_DK_chosenPlace_5 : decode b_DK_chosenPlace 5 = .ok (.invokevirtual 134, 3) := by decide +kernel
theorem d_DK_chosenPlace_8 : decode b_DK_chosenPlace 8 = .ok (.astore_n 1, 1) := by decide +kernel
theorem d_DK_chosenPlace_9 : decode b_DK_chosenPlace 9 = .ok (.aload_n 1, 1) := by decide +kernel
theorem d_DK_chosenPlace_10 : decode b_DK_chosenPlace 10 = .ok (.ifnonnull 5, 3) := by decide +kernel
theorem d_DK_chosenPlace_13 : decode b_DK_chosenPlace 13 = .ok (.iconst (-1), 1) := by decide +kernel
theorem d_DK_chosenPlace_14 : decode b_DK_chosenPlace 14 = .ok (.ireturn, 1) := by decide +kernel
theorem d_DK_chosenPlace_15 : decode b_DK_chosenPlace 15 = .ok (.aload_n 1, 1) := by decide +kernel
theorem d_DK_chosenPlace_16 : decode b_DK_chosenPlace 16 = .ok (.getfield 55, 3) := by decide +kernel
theorem d_DK_chosenPlace_19 : decode b_DK_chosenPlace 19 = .ok (.iconst 2, 1) := by decide +kernel
theorem d_DK_chosenPlace_20 : decode b_DK_chosenPlace 20 = .ok (.if_icmp .eq 18, 3) := by decide +kernel
theorem d_DK_chosenPlace_23 : decode b_DK_chosenPlace 23 = .ok (.aload_n 0, 1) := by decide +kernel
theorem d_DK_chosenPlace_24 : decode b_DK_chosenPlace 24 = .ok (.getfield 33, 3) := by decide +kernel
theorem d_DK_chosenPlace_27 : decode b_DK_chosenPlace 27 = .ok (.ifCond .eq 11, 3) := by decide +kernel
theorem d_DK_chosenPlace_30 : decode b_DK_chosenPlace 30 = .ok (.aload_n 0, 1) := by decide +kernel
theorem d_DK_chosenPlace_31 : decode b_DK_chosenPlace 31 = .ok (.aload_n 1, 1) := by decide +kernel
theorem d_DK_chosenPlace_32 : decode b_DK_chosenPlace 32 = .ok (.invokevirtual 137, 3) := by decide +kernel
theorem d_DK_chosenPlace_35 : decode b_DK_chosenPlace 35 = .ok (.ifCond .eq 5, 3) := by decide +kernel
theorem d_DK_chosenPlace_38 : decode b_DK_chosenPlace 38 = .ok (.iconst 0, 1) := by decide +kernel
theorem d_DK_chosenPlace_39 : decode b_DK_chosenPlace 39 = .ok (.ireturn, 1) := by decide +kernel
theorem d_DK_chosenPlace_40 : decode b_DK_chosenPlace 40 = .ok (.aload_n 0, 1) := by decide +kernel
theorem d_DK_chosenPlace_41 : decode b_DK_chosenPlace 41 = .ok (.aload_n 0, 1) := by decide +kernel
theorem d_DK_chosenPlace_42 : decode b_DK_chosenPlace 42 = .ok (.invokevirtual 141, 3) := by decide +kernel
theorem d_DK_chosenPlace_45 : decode b_DK_chosenPlace 45 = .ok (.invokevirtual 144, 3) := by decide +kernel
theorem d_DK_chosenPlace_48 : decode b_DK_chosenPlace 48 = .ok (.istore_n 2, 1) := by decide +kernel
theorem d_DK_chosenPlace_49 : decode b_DK_chosenPlace 49 = .ok (.iload_n 2, 1) := by decide +kernel
theorem d_DK_chosenPlace_50 : decode b_DK_chosenPlace 50 = .ok (.iconst (-1), 1) := by decide +kernel
theorem d_DK_chosenPlace_51 : decode b_DK_chosenPlace 51 = .ok (.if_icmp .eq 5, 3) := by decide +kernel
theorem d_DK_chosenPlace_54 : decode b_DK_chosenPlace 54 = .ok (.iload_n 2, 1) := by decide +kernel
theorem d_DK_chosenPlace_55 : decode b_DK_chosenPlace 55 = .ok (.ireturn, 1) := by decide +kernel
theorem d_DK_chosenPlace_56 : decode b_DK_chosenPlace 56 = .ok (.aload_n 0, 1) := by decide +kernel
theorem d_DK_chosenPlace_57 : decode b_DK_chosenPlace 57 = .ok (.getfield 33, 3) := by decide +kernel
theorem d_DK_chosenPlace_60 : decode b_DK_chosenPlace 60 = .ok (.iconst 2, 1) := by decide +kernel
theorem d_DK_chosenPlace_61 : decode b_DK_chosenPlace 61 = .ok (.if_icmp .ne 28, 3) := by decide +kernel
theorem d_DK_chosenPlace_64 : decode b_DK_chosenPlace 64 = .ok (.aload_n 0, 1) := by decide +kernel
theorem d_DK_chosenPlace_65 : decode b_DK_chosenPlace 65 = .ok (.aload_n 0, 1) := by decide +kernel
theorem d_DK_chosenPlace_66 : decode b_DK_chosenPlace 66 = .ok (.getfield 29, 3) := by decide +kernel
theorem d_DK_chosenPlace_69 : decode b_DK_chosenPlace 69 = .ok (.ifCond .ne 7, 3) := by decide +kernel
theorem d_DK_chosenPlace_72 : decode b_DK_chosenPlace 72 = .ok (.iconst 1, 1) := by decide +kernel
theorem d_DK_chosenPlace_73 : decode b_DK_chosenPlace 73 = .ok (.goto 4, 3) := by decide +kernel
theorem d_DK_chosenPlace_76 : decode b_DK_chosenPlace 76 = .ok (.iconst 0, 1) := by decide +kernel
theorem d_DK_chosenPlace_77 : decode b_DK_chosenPlace 77 = .ok (.putfield 29, 3) := by decide +kernel
theorem d_DK_chosenPlace_80 : decode b_DK_chosenPlace 80 = .ok (.aload_n 0, 1) := by decide +kernel
theorem d_DK_chosenPlace_81 : decode b_DK_chosenPlace 81 = .ok (.aload_n 0, 1) := by decide +kernel
theorem d_DK_chosenPlace_82 : decode b_DK_chosenPlace 82 = .ok (.invokevirtual 141, 3) := by decide +kernel
theorem d_DK_chosenPlace_85 : decode b_DK_chosenPlace 85 = .ok (.invokevirtual 144, 3) := by decide +kernel
theorem d_DK_chosenPlace_88 : decode b_DK_chosenPlace 88 = .ok (.ireturn, 1) := by decide +kernel
theorem d_DK_chosenPlace_89 : decode b_DK_chosenPlace 89 = .ok (.aload_n 0, 1) := by decide +kernel
theorem d_DK_chosenPlace_90 : decode b_DK_chosenPlace 90 = .ok (.iconst 3, 1) := by decide +kernel
theorem d_DK_chosenPlace_91 : decode b_DK_chosenPlace 91 = .ok (.invokevirtual 144, 3) := by decide +kernel
theorem d_DK_chosenPlace_94 : decode b_DK_chosenPlace 94 = .ok (.ireturn, 1) := by decide +kernel
theorem d_DK_end_0 : decode b_DK_end 0 = .ok (.aload_n 0, 1) := by decide +kernel
theorem d_DK_end_1 : decode b_DK_end 1 = .ok (.aconst_null, 1) := by decide +kernel
theorem d_DK_end_2 : decode b_DK_end 2 = .ok (.putfield 37, 3) := by decide +kernel
theorem d_DK_end_5 : decode b_DK_end 5 = .ok (.aload_n 0, 1) := by decide +kernel
theorem d_DK_end_6 : decode b_DK_end 6 = .ok (.dup, 1) := by decide +kernel
theorem d_DK_end_7 : decode b_DK_end 7 = .ok (.getfield 112, 3) := by decide +kernel
theorem d_DK_end_10 : decode b_DK_end 10 = .ok (.iconst 1, 1) := by decide +kernel
theorem d_DK_end_11 : decode b_DK_end 11 = .ok (.iadd, 1) := by decide +kernel
theorem d_DK_end_12 : decode b_DK_end 12 = .ok (.putfield 112, 3) := by decide +kernel
theorem d_DK_end_15 : decode b_DK_end 15 = .ok (.aload_n 1, 1) := by decide +kernel
theorem d_DK_end_16 : decode b_DK_end 16 = .ok (.iconst 1, 1) := by decide +kernel
theorem d_DK_end_17 : decode b_DK_end 17 = .ok (.putfield 115, 3) := by decide +kernel
theorem d_DK_end_20 : decode b_DK_end 20 = .ok (.aload_n 1, 1) := by decide +kernel
theorem d_DK_end_21 : decode b_DK_end 21 = .ok (.getfield 55, 3) := by decide +kernel
theorem d_DK_end_24 : decode b_DK_end 24 = .ok (.ifCond .ne 18, 3) := by decide +kernel
theorem d_DK_end_27 : decode b_DK_end 27 = .ok (.aload_n 1, 1) := by decide +kernel
theorem d_DK_end_28 : decode b_DK_end 28 = .ok (.aload_n 0, 1) := by decide +kernel
theorem d_DK_end_29 : decode b_DK_end 29 = .ok (.aload_n 1, 1) := by decide +kernel
theorem d_DK_end_30 : decode b_DK_end 30 = .ok (.getfield 60, 3) := by decide +kernel
theorem d_DK_end_33 : decode b_DK_end 33 = .ok (.invokevirtual 66, 3) := by decide +kernel
theorem d_DK_end_36 : decode b_DK_end 36 = .ok (.putfield 63, 3) := by decide +kernel
theorem d_DK_end_39 : decode b_DK_end 39 = .ok (.goto 61, 3) := by decide +kernel
theorem d_DK_end_42 : decode b_DK_end 42 = .ok (.aload_n 1, 1) := by decide +kernel
theorem d_DK_end_43 : decode b_DK_end 43 = .ok (.getfield 55, 3) := by decide +kernel
theorem d_DK_end_46 : decode b_DK_end 46 = .ok (.iconst 1, 1) := by decide +kernel
theorem d_DK_end_47 : decode b_DK_end 47 = .ok (.if_icmp .ne 42, 3) := by decide +kernel
theorem d_DK_end_50 : decode b_DK_end 50 = .ok (.aload_n 0, 1) := by decide +kernel
theorem d_DK_end_51 : decode b_DK_end 51 = .ok (.getfield 25, 3) := by decide +kernel
theorem d_DK_end_54 : decode b_DK_end 54 = .ok (.new 80, 3) := by decide +kernel
theorem d_DK_end_57 : decode b_DK_end 57 = .ok (.dup, 1) := by decide +kernel
theorem d_DK_end_58 : decode b_DK_end 58 = .ok (.aload_n 1, 1) := by decide +kernel
theorem d_DK_end_59 : decode b_DK_end 59 = .ok (.getfield 60, 3) := by decide +kernel
theorem d_DK_end_62 : decode b_DK_end 62 = .ok (.aload_n 1, 1) := by decide +kernel
theorem d_DK_end_63 : decode b_DK_end 63 = .ok (.getfield 63, 3) := by decide +kernel
theorem d_DK_end_66 : decode b_DK_end 66 = .ok (.invokespecial 118, 3) := by decide +kernel
theorem d_DK_end_69 : decode b_DK_end 69 = .ok (.invokevirtual 121, 3) := by decide +kernel
theorem d_DK_end_72 : decode b_DK_end 72 = .ok (.aload_n 0, 1) := by decide +kernel
theorem d_DK_end_73 : decode b_DK_end 73 = .ok (.aload_n 0, 1) := by decide +kernel
theorem d_DK_end_74 : decode b_DK_end 74 = .ok (.getfield 25, 3) := by decide +kernel
theorem d_DK_end_77 : decode b_DK_end 77 = .ok (.invokevirtual 105, 3) := by decide +kernel
theorem d_DK_end_80 : decode b_DK_end 80 = .ok (.bipush 6, 2) := by decide +kernel
theorem d_DK_end_82 : decode b_DK_end 82 = .ok (.isub, 1) := by decide +kernel
theorem d_DK_end_83 : decode b_DK_end 83 = .ok (.invokevirtual 125, 3) := by decide +kernel
theorem d_DK_end_86 : decode b_DK_end 86 = .ok (.goto 14, 3) := by decide +kernel
theorem d_DK_end_89 : decode b_DK_end 89 = .ok (.aload_n 0, 1) := by decide +kernel
theorem d_DK_end_90 : decode b_DK_end 90 = .ok (.aload_n 0, 1) := by decide +kernel
theorem d_DK_end_91 : decode b_DK_end 91 = .ok (.getfield 25, 3) := by decide +kernel
theorem d_DK_end_94 : decode b_DK_end 94 = .ok (.invokevirtual 105, 3) := by decide +kernel
theorem d_DK_end_97 : decode b_DK_end 97 = .ok (.invokevirtual 125, 3) := by decide +kernel
theorem d_DK_end_100 : decode b_DK_end 100 = .ok (.return_, 1) := by decide +kernel
theorem d_DK_hasWork_0 : decode b_DK_hasWork 0 = .ok (.aload_n 0, 1) := by decide +kernel
theorem d_DK_hasWork_1 : decode b_DK_hasWork 1 = .ok (.getfield 37, 3) := by decide +kernel
theorem d_DK_hasWork_4 : decode b_DK_hasWork 4 = .ok (.ifnonnull 13, 3) := by decide +kernel
theorem d_DK_hasWork_7 : decode b_DK_hasWork 7 = .ok (.aload_n 0, 1) := by decide +kernel
theorem d_DK_hasWork_8 : decode b_DK_hasWork 8 = .ok (.getfield 12, 3) := by decide +kernel
theorem d_DK_hasWork_11 : decode b_DK_hasWork 11 = .ok (.invokevirtual 41, 3) := by decide +kernel
theorem d_DK_hasWork_14 : decode b_DK_hasWork 14 = .ok (.ifCond .le 7, 3) := by decide +kernel
theorem d_DK_hasWork_17 : decode b_DK_hasWork 17 = .ok (.iconst 1, 1) := by decide +kernel
theorem d_DK_hasWork_18 : decode b_DK_hasWork 18 = .ok (.goto 4, 3) := by decide +kernel
theorem d_DK_hasWork_21 : decode b_DK_hasWork 21 = .ok (.iconst 0, 1) := by decide +kernel
theorem d_DK_hasWork_22 : decode b_DK_hasWork 22 = .ok (.ireturn, 1) := by decide +kernel
theorem d_DK_init_0 : decode b_DK_init 0 = .ok (.aload_n 0, 1) := by decide +kernel
theorem d_DK_init_1 : decode b_DK_init 1 = .ok (.invokespecial 3, 3) := by decide +kernel
theorem d_DK_init_4 : decode b_DK_init 4 = .ok (.aload_n 0, 1) := by decide +kernel
theorem d_DK_init_5 : decode b_DK_init 5 = .ok (.new 9, 3) := by decide +kernel
theorem d_DK_init_8 : decode b_DK_init 8 = .ok (.dup, 1) := by decide +kernel
theorem d_DK_init_9 : decode b_DK_init 9 = .ok (.invokespecial 11, 3) := by decide +kernel
theorem d_DK_init_12 : decode b_DK_init 12 = .ok (.putfield 12, 3) := by decide +kernel
theorem d_DK_init_15 : decode b_DK_init 15 = .ok (.aload_n 0, 1) := by decide +kernel
theorem d_DK_init_16 : decode b_DK_init 16 = .ok (.sipush 256, 3) := by decide +kernel
theorem d_DK_init_19 : decode b_DK_init 19 = .ok (.newarray .int, 2) := by decide +kernel
theorem d_DK_init_21 : decode b_DK_init 21 = .ok (.putfield 18, 3) := by decide +kernel
theorem d_DK_init_24 : decode b_DK_init 24 = .ok (.aload_n 0, 1) := by decide +kernel
theorem d_DK_init_25 : decode b_DK_init 25 = .ok (.new 22, 3) := by decide +kernel
theorem d_DK_init_28 : decode b_DK_init 28 = .ok (.dup, 1) := by decide +kernel
theorem d_DK_init_29 : decode b_DK_init 29 = .ok (.invokespecial 24, 3) := by decide +kernel
theorem d_DK_init_32 : decode b_DK_init 32 = .ok (.putfield 25, 3) := by decide +kernel
theorem d_DK_init_35 : decode b_DK_init 35 = .ok (.aload_n 0, 1) := by decide +kernel
theorem d_DK_init_36 : decode b_DK_init 36 = .ok (.iconst 1, 1) := by decide +kernel
theorem d_DK_init_37 : decode b_DK_init 37 = .ok (.putfield 29, 3) := by decide +kernel
theorem d_DK_init_40 : decode b_DK_init 40 = .ok (.aload_n 0, 1) := by decide +kernel
theorem d_DK_init_41 : decode b_DK_init 41 = .ok (.iconst 3, 1) := by decide +kernel
theorem d_DK_init_42 : decode b_DK_init 42 = .ok (.putfield 33, 3) := by decide +kernel
theorem d_DK_init_45 : decode b_DK_init 45 = .ok (.return_, 1) := by decide +kernel
theorem d_DK_isOldUnderPolicy_0 : decode b_DK_isOldUnderPolicy 0 = .ok (.aload_n 0, 1) := by decide +kernel
theorem d_DK_isOldUnderPolicy_1 : decode b_DK_isOldUnderPolicy 1 = .ok (.getfield 33, 3) := by decide +kernel
theorem d_DK_isOldUnderPolicy_4 : decode b_DK_isOldUnderPolicy 4 = .ok (.iconst 4, 1) := by decide +kernel
theorem d_DK_isOldUnderPolicy_5 : decode b_DK_isOldUnderPolicy 5 = .ok (.if_icmp .ne 21, 3) := by decide +kernel
theorem d_DK_isOldUnderPolicy_8 : decode b_DK_isOldUnderPolicy 8 = .ok (.aload_n 0, 1) := by decide +kernel
theorem d_DK_isOldUnderPolicy_9 : decode b_DK_isOldUnderPolicy 9 = .ok (.getfield 82, 3) := by decide +kernel
theorem d_DK_isOldUnderPolicy_12 : decode b_DK_isOldUnderPolicy 12 = .ok (.aload_n 1, 1) := by decide +kernel
theorem d_DK_isOldUnderPolicy_13 : decode b_DK_isOldUnderPolicy 13 = .ok (.getfield 147, 3) := by decide +kernel
theorem d_DK_isOldUnderPolicy_16 : decode b_DK_isOldUnderPolicy 16 = .ok (.isub, 1) := by decide +kernel
theorem d_DK_isOldUnderPolicy_17 : decode b_DK_isOldUnderPolicy 17 = .ok (.bipush 100, 2) := by decide +kernel
theorem d_DK_isOldUnderPolicy_19 : decode b_DK_isOldUnderPolicy 19 = .ok (.if_icmp .lt 7, 3) := by decide +kernel
theorem d_DK_isOldUnderPolicy_22 : decode b_DK_isOldUnderPolicy 22 = .ok (.iconst 1, 1) := by decide +kernel
theorem d_DK_isOldUnderPolicy_23 : decode b_DK_isOldUnderPolicy 23 = .ok (.goto 4, 3) := by decide +kernel
theorem d_DK_isOldUnderPolicy_26 : decode b_DK_isOldUnderPolicy 26 = .ok (.iconst 0, 1) := by decide +kernel
theorem d_DK_isOldUnderPolicy_27 : decode b_DK_isOldUnderPolicy 27 = .ok (.ireturn, 1) := by decide +kernel
theorem d_DK_loseAllButMedia_0 : decode b_DK_loseAllButMedia 0 = .ok (.aload_n 0, 1) := by decide +kernel
theorem d_DK_loseAllButMedia_1 : decode b_DK_loseAllButMedia 1 = .ok (.getfield 25, 3) := by decide +kernel
theorem d_DK_loseAllButMedia_4 : decode b_DK_loseAllButMedia 4 = .ok (.invokevirtual 69, 3) := by decide +kernel
theorem d_DK_loseAllButMedia_7 : decode b_DK_loseAllButMedia 7 = .ok (.aload_n 0, 1) := by decide +kernel
theorem d_DK_loseAllButMedia_8 : decode b_DK_loseAllButMedia 8 = .ok (.aconst_null, 1) := by decide +kernel
theorem d_DK_loseAllButMedia_9 : decode b_DK_loseAllButMedia 9 = .ok (.putfield 37, 3) := by decide +kernel
theorem d_DK_loseAllButMedia_12 : decode b_DK_loseAllButMedia 12 = .ok (.aload_n 0, 1) := by decide +kernel
theorem d_DK_loseAllButMedia_13 : decode b_DK_loseAllButMedia 13 = .ok (.iconst 0, 1) := by decide +kernel
theorem d_DK_loseAllButMedia_14 : decode b_DK_loseAllButMedia 14 = .ok (.putfield 52, 3) := by decide +kernel
theorem d_DK_loseAllButMedia_17 : decode b_DK_loseAllButMedia 17 = .ok (.aload_n 0, 1) := by decide +kernel
theorem d_DK_loseAllButMedia_18 : decode b_DK_loseAllButMedia 18 = .ok (.iconst 0, 1) := by decide +kernel
theorem d_DK_loseAllButMedia_19 : decode b_DK_loseAllButMedia 19 = .ok (.putfield 72, 3) := by decide +kernel
theorem d_DK_loseAllButMedia_22 : decode b_DK_loseAllButMedia 22 = .ok (.aload_n 0, 1) := by decide +kernel
theorem d_DK_loseAllButMedia_23 : decode b_DK_loseAllButMedia 23 = .ok (.iconst 1, 1) := by decide +kernel
theorem d_DK_loseAllButMedia_24 : decode b_DK_loseAllButMedia 24 = .ok (.putfield 29, 3) := by decide +kernel
theorem d_DK_loseAllButMedia_27 : decode b_DK_loseAllButMedia 27 = .ok (.return_, 1) := by decide +kernel
theorem d_DK_moveToMedia_0 : decode b_DK_moveToMedia 0 = .ok (.iconst 0, 1) := by decide +kernel
theorem d_DK_moveToMedia_1 : decode b_DK_moveToMedia 1 = .ok (.istore_n 2, 1) := by decide +kernel
theorem d_DK_moveToMedia_2 : decode b_DK_moveToMedia 2 = .ok (.iload_n 2, 1) := by decide +kernel
theorem d_DK_moveToMedia_3 : decode b_DK_moveToMedia 3 = .ok (.iload_n 1, 1) := by decide +kernel
theorem d_DK_moveToMedia_4 : decode b_DK_moveToMedia 4 = .ok (.if_icmp .ge 34, 3) := by decide +kernel
theorem d_DK_moveToMedia_7 : decode b_DK_moveToMedia 7 = .ok (.aload_n 0, 1) := by decide +kernel
theorem d_DK_moveToMedia_8 : decode b_DK_moveToMedia 8 = .ok (.getfield 25, 3) := by decide +kernel
theorem d_DK_moveToMedia_11 : decode b_DK_moveToMedia 11 = .ok (.invokevirtual 129, 3) := by decide +kernel
theorem d_DK_moveToMedia_14 : decode b_DK_moveToMedia 14 = .ok (.astore_n 3, 1) := by decide +kernel
theorem d_DK_moveToMedia_15 : decode b_DK_moveToMedia 15 = .ok (.aload_n 3, 1) := by decide +kernel
theorem d_DK_moveToMedia_16 : decode b_DK_moveToMedia 16 = .ok (.ifnull 16, 3) := by decide +kernel
theorem d_DK_moveToMedia_19 : decode b_DK_moveToMedia 19 = .ok (.aload_n 0, 1) := by decide +kernel
theorem d_DK_moveToMedia_20 : decode b_DK_moveToMedia 20 = .ok (.getfield 18, 3) := by decide +kernel
theorem d_DK_moveToMedia_23 : decode b_DK_moveToMedia 23 = .ok (.aload_n 3, 1) := by decide +kernel
theorem d_DK_moveToMedia_24 : decode b_DK_moveToMedia 24 = .ok (.getfield 133, 3) := by decide +kernel
theorem d_DK_moveToMedia_27 : decode b_DK_moveToMedia 27 = .ok (.aload_n 3, 1) := by decide +kernel
theorem d_DK_moveToMedia_28 : decode b_DK_moveToMedia 28 = .ok (.getfield 79, 3) := by decide +kernel
theorem d_DK_moveToMedia_31 : decode b_DK_moveToMedia 31 = .ok (.iastore, 1) := by decide +kernel
theorem d_DK_moveToMedia_32 : decode b_DK_moveToMedia 32 = .ok (.iinc 2 1, 3) := by decide +kernel
theorem d_DK_moveToMedia_35 : decode b_DK_moveToMedia 35 = .ok (.goto (-33), 3) := by decide +kernel
theorem d_DK_moveToMedia_38 : decode b_DK_moveToMedia 38 = .ok (.return_, 1) := by decide +kernel
theorem d_DK_nearestPlace_0 : decode b_DK_nearestPlace 0 = .ok (.iconst (-1), 1) := by decide +kernel
theorem d_DK_nearestPlace_1 : decode b_DK_nearestPlace 1 = .ok (.istore_n 2, 1) := by decide +kernel
theorem d_DK_nearestPlace_2 : decode b_DK_nearestPlace 2 = .ok (.iconst 0, 1) := by decide +kernel
theorem d_DK_nearestPlace_3 : decode b_DK_nearestPlace 3 = .ok (.istore_n 3, 1) := by decide +kernel
theorem d_DK_nearestPlace_4 : decode b_DK_nearestPlace 4 = .ok (.iconst 0, 1) := by decide +kernel
theorem d_DK_nearestPlace_5 : decode b_DK_nearestPlace 5 = .ok (.istore 4, 2) := by decide +kernel
theorem d_DK_nearestPlace_7 : decode b_DK_nearestPlace 7 = .ok (.iload 4, 2) := by decide +kernel
theorem d_DK_nearestPlace_9 : decode b_DK_nearestPlace 9 = .ok (.aload_n 0, 1) := by decide +kernel
theorem d_DK_nearestPlace_10 : decode b_DK_nearestPlace 10 = .ok (.getfield 12, 3) := by decide +kernel
theorem d_DK_nearestPlace_13 : decode b_DK_nearestPlace 13 = .ok (.invokevirtual 41, 3) := by decide +kernel
theorem d_DK_nearestPlace_16 : decode b_DK_nearestPlace 16 = .ok (.if_icmp .ge 74, 3) := by decide +kernel
theorem d_DK_nearestPlace_19 : decode b_DK_nearestPlace 19 = .ok (.aload_n 0, 1) := by decide +kernel
theorem d_DK_nearestPlace_20 : decode b_DK_nearestPlace 20 = .ok (.getfield 12, 3) := by decide +kernel
theorem d_DK_nearestPlace_23 : decode b_DK_nearestPlace 23 = .ok (.iload 4, 2) := by decide +kernel
theorem d_DK_nearestPlace_25 : decode b_DK_nearestPlace 25 = .ok (.invokevirtual 134, 3) := by decide +kernel
theorem d_DK_nearestPlace_28 : decode b_DK_nearestPlace 28 = .ok (.astore 5, 2) := by decide +kernel
theorem d_DK_nearestPlace_30 : decode b_DK_nearestPlace 30 = .ok (.aload 5, 2) := by decide +kernel
theorem d_DK_nearestPlace_32 : decode b_DK_nearestPlace 32 = .ok (.ifnull 52, 3) := by decide +kernel
theorem d_DK_nearestPlace_35 : decode b_DK_nearestPlace 35 = .ok (.aload_n 0, 1) := by decide +kernel
theorem d_DK_nearestPlace_36 : decode b_DK_nearestPlace 36 = .ok (.getfield 12, 3) := by decide +kernel
theorem d_DK_nearestPlace_39 : decode b_DK_nearestPlace 39 = .ok (.iload 4, 2) := by decide +kernel
theorem d_DK_nearestPlace_41 : decode b_DK_nearestPlace 41 = .ok (.invokevirtual 150, 3) := by decide +kernel
theorem d_DK_nearestPlace_44 : decode b_DK_nearestPlace 44 = .ok (.ifCond .eq 40, 3) := by decide +kernel
theorem d_DK_nearestPlace_47 : decode b_DK_nearestPlace 47 = .ok (.aload_n 0, 1) := by decide +kernel
theorem d_DK_nearestPlace_48 : decode b_DK_nearestPlace 48 = .ok (.aload 5, 2) := by decide +kernel
theorem d_DK_nearestPlace_50 : decode b_DK_nearestPlace 50 = .ok (.getfield 60, 3) := by decide +kernel
theorem d_DK_nearestPlace_53 : decode b_DK_nearestPlace 53 = .ok (.invokestatic 106, 3) := by decide +kernel
theorem d_DK_nearestPlace_56 : decode b_DK_nearestPlace 56 = .ok (.iload_n 1, 1) := by decide +kernel
theorem d_DK_nearestPlace_57 : decode b_DK_nearestPlace 57 = .ok (.invokevirtual 154, 3) := by decide +kernel
theorem d_DK_nearestPlace_60 : decode b_DK_nearestPlace 60 = .ok (.istore 6, 2) := by decide +kernel
theorem d_DK_nearestPlace_62 : decode b_DK_nearestPlace 62 = .ok (.iload 6, 2) := by decide +kernel
theorem d_DK_nearestPlace_64 : decode b_DK_nearestPlace 64 = .ok (.ifCond .lt 20, 3) := by decide +kernel
theorem d_DK_nearestPlace_67 : decode b_DK_nearestPlace 67 = .ok (.iload_n 2, 1) := by decide +kernel
theorem d_DK_nearestPlace_68 : decode b_DK_nearestPlace 68 = .ok (.iconst (-1), 1) := by decide +kernel
theorem d_DK_nearestPlace_69 : decode b_DK_nearestPlace 69 = .ok (.if_icmp .eq 9, 3) := by decide +kernel
theorem d_DK_nearestPlace_72 : decode b_DK_nearestPlace 72 = .ok (.iload 6, 2) := by decide +kernel
theorem d_DK_nearestPlace_74 : decode b_DK_nearestPlace 74 = .ok (.iload_n 3, 1) := by decide +kernel
theorem d_DK_nearestPlace_75 : decode b_DK_nearestPlace 75 = .ok (.if_icmp .ge 9, 3) := by decide +kernel
theorem d_DK_nearestPlace_78 : decode b_DK_nearestPlace 78 = .ok (.iload 4, 2) := by decide +kernel
theorem d_DK_nearestPlace_80 : decode b_DK_nearestPlace 80 = .ok (.istore_n 2, 1) := by decide +kernel
theorem d_DK_nearestPlace_81 : decode b_DK_nearestPlace 81 = .ok (.iload 6, 2) := by decide +kernel
theorem d_DK_nearestPlace_83 : decode b_DK_nearestPlace 83 = .ok (.istore_n 3, 1) := by decide +kernel
theorem d_DK_nearestPlace_84 : decode b_DK_nearestPlace 84 = .ok (.iinc 4 1, 3) := by decide +kernel
theorem d_DK_nearestPlace_87 : decode b_DK_nearestPlace 87 = .ok (.goto (-80), 3) := by decide +kernel
theorem d_DK_nearestPlace_90 : decode b_DK_nearestPlace 90 = .ok (.iload_n 2, 1) := by decide +kernel
theorem d_DK_nearestPlace_91 : decode b_DK_nearestPlace 91 = .ok (.ireturn, 1) := by decide +kernel
theorem d_DK_pass_0 : decode b_DK_pass 0 = .ok (.iload_n 1, 1) := by decide +kernel
theorem d_DK_pass_1 : decode b_DK_pass 1 = .ok (.istore_n 2, 1) := by decide +kernel
theorem d_DK_pass_2 : decode b_DK_pass 2 = .ok (.iconst 0, 1) := by decide +kernel
theorem d_DK_pass_3 : decode b_DK_pass 3 = .ok (.istore_n 3, 1) := by decide +kernel
theorem d_DK_pass_4 : decode b_DK_pass 4 = .ok (.iload_n 3, 1) := by decide +kernel
theorem d_DK_pass_5 : decode b_DK_pass 5 = .ok (.iload_n 1, 1) := by decide +kernel
theorem d_DK_pass_6 : decode b_DK_pass 6 = .ok (.if_icmp .ge 25, 3) := by decide +kernel
theorem d_DK_pass_9 : decode b_DK_pass 9 = .ok (.iload_n 2, 1) := by decide +kernel
theorem d_DK_pass_10 : decode b_DK_pass 10 = .ok (.ifCond .le 21, 3) := by decide +kernel
theorem d_DK_pass_13 : decode b_DK_pass 13 = .ok (.aload_n 0, 1) := by decide +kernel
theorem d_DK_pass_14 : decode b_DK_pass 14 = .ok (.invokevirtual 45, 3) := by decide +kernel
theorem d_DK_pass_17 : decode b_DK_pass 17 = .ok (.iload_n 2, 1) := by decide +kernel
theorem d_DK_pass_18 : decode b_DK_pass 18 = .ok (.aload_n 0, 1) := by decide +kernel
theorem d_DK_pass_19 : decode b_DK_pass 19 = .ok (.iload_n 2, 1) := by decide +kernel
theorem d_DK_pass_20 : decode b_DK_pass 20 = .ok (.invokevirtual 48, 3) := by decide +kernel
theorem d_DK_pass_23 : decode b_DK_pass 23 = .ok (.isub, 1) := by decide +kernel
theorem d_DK_pass_24 : decode b_DK_pass 24 = .ok (.istore_n 2, 1) := by decide +kernel
theorem d_DK_pass_25 : decode b_DK_pass 25 = .ok (.iinc 3 1, 3) := by decide +kernel
theorem d_DK_pass_28 : decode b_DK_pass 28 = .ok (.goto (-24), 3) := by decide +kernel
theorem d_DK_pass_31 : decode b_DK_pass 31 = .ok (.return_, 1) := by decide +kernel
theorem d_DK_passToNextEnd_0 : decode b_DK_passToNextEnd 0 = .ok (.aload_n 0, 1) := by decide +kernel
theorem d_DK_passToNextEnd_1 : decode b_DK_passToNextEnd 1 = .ok (.invokevirtual 45, 3) := by decide +kernel
theorem d_DK_passToNextEnd_4 : decode b_DK_passToNextEnd 4 = .ok (.aload_n 0, 1) := by decide +kernel
theorem d_DK_passToNextEnd_5 : decode b_DK_passToNextEnd 5 = .ok (.getfield 37, 3) := by decide +kernel
theorem d_DK_passToNextEnd_8 : decode b_DK_passToNextEnd 8 = .ok (.ifnull 12, 3) := by decide +kernel
theorem d_DK_passToNextEnd_11 : decode b_DK_passToNextEnd 11 = .ok (.aload_n 0, 1) := by decide +kernel
theorem d_DK_passToNextEnd_12 : decode b_DK_passToNextEnd 12 = .ok (.aload_n 0, 1) := by decide +kernel
theorem d_DK_passToNextEnd_13 : decode b_DK_passToNextEnd 13 = .ok (.getfield 52, 3) := by decide +kernel
theorem d_DK_passToNextEnd_16 : decode b_DK_passToNextEnd 16 = .ok (.invokevirtual 48, 3) := by decide +kernel
theorem d_DK_passToNextEnd_19 : decode b_DK_passToNextEnd 19 = .ok (.pop, 1) := by decide +kernel
theorem d_DK_passToNextEnd_20 : decode b_DK_passToNextEnd 20 = .ok (.return_, 1) := by decide +kernel
theorem d_DK_passUntilEnd_0 : decode b_DK_passUntilEnd 0 = .ok (.aload_n 0, 1) := by decide +kernel
theorem d_DK_passUntilEnd_1 : decode b_DK_passUntilEnd 1 = .ok (.getfield 37, 3) := by decide +kernel
theorem d_DK_passUntilEnd_4 : decode b_DK_passUntilEnd 4 = .ok (.ifnonnull 25, 3) := by decide +kernel
theorem d_DK_passUntilEnd_7 : decode b_DK_passUntilEnd 7 = .ok (.aload_n 0, 1) := by decide +kernel
theorem d_DK_passUntilEnd_8 : decode b_DK_passUntilEnd 8 = .ok (.dup, 1) := by decide +kernel
theorem d_DK_passUntilEnd_9 : decode b_DK_passUntilEnd 9 = .ok (.getfield 82, 3) := by decide +kernel
theorem d_DK_passUntilEnd_12 : decode b_DK_passUntilEnd 12 = .ok (.iload_n 1, 1) := by decide +kernel
theorem d_DK_passUntilEnd_13 : decode b_DK_passUntilEnd 13 = .ok (.iadd, 1) := by decide +kernel
theorem d_DK_passUntilEnd_14 : decode b_DK_passUntilEnd 14 = .ok (.putfield 82, 3) := by decide +kernel
theorem d_DK_passUntilEnd_17 : decode b_DK_passUntilEnd 17 = .ok (.aload_n 0, 1) := by decide +kernel
theorem d_DK_passUntilEnd_18 : decode b_DK_passUntilEnd 18 = .ok (.dup, 1) := by decide +kernel
theorem d_DK_passUntilEnd_19 : decode b_DK_passUntilEnd 19 = .ok (.getfield 85, 3) := by decide +kernel
theorem d_DK_passUntilEnd_22 : decode b_DK_passUntilEnd 22 = .ok (.iload_n 1, 1) := by decide +kernel
theorem d_DK_passUntilEnd_23 : decode b_DK_passUntilEnd 23 = .ok (.iadd, 1) := by decide +kernel
theorem d_DK_passUntilEnd_24 : decode b_DK_passUntilEnd 24 = .ok (.putfield 85, 3) := by decide +kernel
theorem d_DK_passUntilEnd_27 : decode b_DK_passUntilEnd 27 = .ok (.iload_n 1, 1) := by decide +kernel
theorem d_DK_passUntilEnd_28 : decode b_DK_passUntilEnd 28 = .ok (.ireturn, 1) := by decide +kernel
theorem d_DK_passUntilEnd_29 : decode b_DK_passUntilEnd 29 = .ok (.iload_n 1, 1) := by decide +kernel
theorem d_DK_passUntilEnd_30 : decode b_DK_passUntilEnd 30 = .ok (.aload_n 0, 1) := by decide +kernel
theorem d_DK_passUntilEnd_31 : decode b_DK_passUntilEnd 31 = .ok (.getfield 52, 3) := by decide +kernel
theorem d_DK_passUntilEnd_34 : decode b_DK_passUntilEnd 34 = .ok (.invokestatic 88, 3) := by decide +kernel
theorem d_DK_passUntilEnd_37 : decode b_DK_passUntilEnd 37 = .ok (.istore_n 2, 1) := by decide +kernel
theorem d_DK_passUntilEnd_38 : decode b_DK_passUntilEnd 38 = .ok (.aload_n 0, 1) := by decide +kernel
theorem d_DK_passUntilEnd_39 : decode b_DK_passUntilEnd 39 = .ok (.dup, 1) := by decide +kernel
theorem d_DK_passUntilEnd_40 : decode b_DK_passUntilEnd 40 = .ok (.getfield 82, 3) := by decide +kernel
theorem d_DK_passUntilEnd_43 : decode b_DK_passUntilEnd 43 = .ok (.iload_n 2, 1) := by decide +kernel
theorem d_DK_passUntilEnd_44 : decode b_DK_passUntilEnd 44 = .ok (.iadd, 1) := by decide +kernel
theorem d_DK_passUntilEnd_45 : decode b_DK_passUntilEnd 45 = .ok (.putfield 82, 3) := by decide +kernel
theorem d_DK_passUntilEnd_48 : decode b_DK_passUntilEnd 48 = .ok (.aload_n 0, 1) := by decide +kernel
theorem d_DK_passUntilEnd_49 : decode b_DK_passUntilEnd 49 = .ok (.dup, 1) := by decide +kernel
theorem d_DK_passUntilEnd_50 : decode b_DK_passUntilEnd 50 = .ok (.getfield 52, 3) := by decide +kernel
theorem d_DK_passUntilEnd_53 : decode b_DK_passUntilEnd 53 = .ok (.iload_n 2, 1) := by decide +kernel
theorem d_DK_passUntilEnd_54 : decode b_DK_passUntilEnd 54 = .ok (.isub, 1) := by decide +kernel
theorem d_DK_passUntilEnd_55 : decode b_DK_passUntilEnd 55 = .ok (.putfield 52, 3) := by decide +kernel
theorem d_DK_passUntilEnd_58 : decode b_DK_passUntilEnd 58 = .ok (.aload_n 0, 1) := by decide +kernel
theorem d_DK_passUntilEnd_59 : decode b_DK_passUntilEnd 59 = .ok (.getfield 52, 3) := by decide +kernel
theorem d_DK_passUntilEnd_62 : decode b_DK_passUntilEnd 62 = .ok (.ifCond .gt 11, 3) := by decide +kernel
theorem d_DK_passUntilEnd_65 : decode b_DK_passUntilEnd 65 = .ok (.aload_n 0, 1) := by decide +kernel
theorem d_DK_passUntilEnd_66 : decode b_DK_passUntilEnd 66 = .ok (.aload_n 0, 1) := by decide +kernel
theorem d_DK_passUntilEnd_67 : decode b_DK_passUntilEnd 67 = .ok (.getfield 37, 3) := by decide +kernel
theorem d_DK_passUntilEnd_70 : decode b_DK_passUntilEnd 70 = .ok (.invokevirtual 94, 3) := by decide +kernel
theorem d_DK_passUntilEnd_73 : decode b_DK_passUntilEnd 73 = .ok (.iload_n 2, 1) := by decide +kernel
theorem d_DK_passUntilEnd_74 : decode b_DK_passUntilEnd 74 = .ok (.ireturn, 1) := by decide +kernel
theorem d_DK_sideOfPolicy_0 : decode b_DK_sideOfPolicy 0 = .ok (.aload_n 0, 1) := by decide +kernel
theorem d_DK_sideOfPolicy_1 : decode b_DK_sideOfPolicy 1 = .ok (.getfield 33, 3) := by decide +kernel
theorem d_DK_sideOfPolicy_4 : decode b_DK_sideOfPolicy 4 = .ok (.iconst 1, 1) := by decide +kernel
theorem d_DK_sideOfPolicy_5 : decode b_DK_sideOfPolicy 5 = .ok (.if_icmp .ne 5, 3) := by decide +kernel
theorem d_DK_sideOfPolicy_8 : decode b_DK_sideOfPolicy 8 = .ok (.iconst 0, 1) := by decide +kernel
theorem d_DK_sideOfPolicy_9 : decode b_DK_sideOfPolicy 9 = .ok (.ireturn, 1) := by decide +kernel
theorem d_DK_sideOfPolicy_10 : decode b_DK_sideOfPolicy 10 = .ok (.aload_n 0, 1) := by decide +kernel
theorem d_DK_sideOfPolicy_11 : decode b_DK_sideOfPolicy 11 = .ok (.getfield 33, 3) := by decide +kernel
theorem d_DK_sideOfPolicy_14 : decode b_DK_sideOfPolicy 14 = .ok (.iconst 2, 1) := by decide +kernel
theorem d_DK_sideOfPolicy_15 : decode b_DK_sideOfPolicy 15 = .ok (.if_icmp .ne 14, 3) := by decide +kernel
theorem d_DK_sideOfPolicy_18 : decode b_DK_sideOfPolicy 18 = .ok (.aload_n 0, 1) := by decide +kernel
theorem d_DK_sideOfPolicy_19 : decode b_DK_sideOfPolicy 19 = .ok (.getfield 29, 3) := by decide +kernel
theorem d_DK_sideOfPolicy_22 : decode b_DK_sideOfPolicy 22 = .ok (.ifCond .ne 7, 3) := by decide +kernel
theorem d_DK_sideOfPolicy_25 : decode b_DK_sideOfPolicy 25 = .ok (.iconst 2, 1) := by decide +kernel
theorem d_DK_sideOfPolicy_26 : decode b_DK_sideOfPolicy 26 = .ok (.goto 4, 3) := by decide +kernel
theorem d_DK_sideOfPolicy_29 : decode b_DK_sideOfPolicy 29 = .ok (.iconst 1, 1) := by decide +kernel
theorem d_DK_sideOfPolicy_30 : decode b_DK_sideOfPolicy 30 = .ok (.ireturn, 1) := by decide +kernel
theorem d_DK_tracksAway_0 : decode b_DK_tracksAway 0 = .ok (.iload_n 2, 1) := by decide +kernel
theorem d_DK_tracksAway_1 : decode b_DK_tracksAway 1 = .ok (.tableswitch 43 1 3 #[27, 34, 41], 27) := by decide +kernel
theorem d_DK_tracksAway_28 : decode b_DK_tracksAway 28 = .ok (.iload_n 1, 1) := by decide +kernel
theorem d_DK_tracksAway_29 : decode b_DK_tracksAway 29 = .ok (.aload_n 0, 1) := by decide +kernel
theorem d_DK_tracksAway_30 : decode b_DK_tracksAway 30 = .ok (.getfield 72, 3) := by decide +kernel
theorem d_DK_tracksAway_33 : decode b_DK_tracksAway 33 = .ok (.isub, 1) := by decide +kernel
theorem d_DK_tracksAway_34 : decode b_DK_tracksAway 34 = .ok (.ireturn, 1) := by decide +kernel
theorem d_DK_tracksAway_35 : decode b_DK_tracksAway 35 = .ok (.aload_n 0, 1) := by decide +kernel
theorem d_DK_tracksAway_36 : decode b_DK_tracksAway 36 = .ok (.getfield 72, 3) := by decide +kernel
theorem d_DK_tracksAway_39 : decode b_DK_tracksAway 39 = .ok (.iload_n 1, 1) := by decide +kernel
theorem d_DK_tracksAway_40 : decode b_DK_tracksAway 40 = .ok (.isub, 1) := by decide +kernel
theorem d_DK_tracksAway_41 : decode b_DK_tracksAway 41 = .ok (.ireturn, 1) := by decide +kernel
theorem d_DK_tracksAway_42 : decode b_DK_tracksAway 42 = .ok (.iload_n 1, 1) := by decide +kernel
theorem d_DK_tracksAway_43 : decode b_DK_tracksAway 43 = .ok (.ireturn, 1) := by decide +kernel
theorem d_DK_tracksAway_44 : decode b_DK_tracksAway 44 = .ok (.iload_n 1, 1) := by decide +kernel
theorem d_DK_tracksAway_45 : decode b_DK_tracksAway 45 = .ok (.aload_n 0, 1) := by decide +kernel
theorem d_DK_tracksAway_46 : decode b_DK_tracksAway 46 = .ok (.getfield 72, 3) := by decide +kernel
theorem d_DK_tracksAway_49 : decode b_DK_tracksAway 49 = .ok (.isub, 1) := by decide +kernel
theorem d_DK_tracksAway_50 : decode b_DK_tracksAway 50 = .ok (.invokestatic 109, 3) := by decide +kernel
theorem d_DK_tracksAway_53 : decode b_DK_tracksAway 53 = .ok (.ireturn, 1) := by decide +kernel
theorem d_DK_valueAfterServing_0 : decode b_DK_valueAfterServing 0 = .ok (.aload_n 0, 1) := by decide +kernel
theorem d_DK_valueAfterServing_1 : decode b_DK_valueAfterServing 1 = .ok (.getfield 37, 3) := by decide +kernel
theorem d_DK_valueAfterServing_4 : decode b_DK_valueAfterServing 4 = .ok (.ifnull 33, 3) := by decide +kernel
theorem d_DK_valueAfterServing_7 : decode b_DK_valueAfterServing 7 = .ok (.aload_n 0, 1) := by decide +kernel
theorem d_DK_valueAfterServing_8 : decode b_DK_valueAfterServing 8 = .ok (.getfield 37, 3) := by decide +kernel
theorem d_DK_valueAfterServing_11 : decode b_DK_valueAfterServing 11 = .ok (.getfield 55, 3) := by decide +kernel
theorem d_DK_valueAfterServing_14 : decode b_DK_valueAfterServing 14 = .ok (.iconst 1, 1) := by decide +kernel
theorem d_DK_valueAfterServing_15 : decode b_DK_valueAfterServing 15 = .ok (.if_icmp .ne 22, 3) := by decide +kernel
theorem d_DK_valueAfterServing_18 : decode b_DK_valueAfterServing 18 = .ok (.aload_n 0, 1) := by decide +kernel
theorem d_DK_valueAfterServing_19 : decode b_DK_valueAfterServing 19 = .ok (.getfield 37, 3) := by decide +kernel
theorem d_DK_valueAfterServing_22 : decode b_DK_valueAfterServing 22 = .ok (.getfield 60, 3) := by decide +kernel
theorem d_DK_valueAfterServing_25 : decode b_DK_valueAfterServing 25 = .ok (.iload_n 1, 1) := by decide +kernel
theorem d_DK_valueAfterServing_26 : decode b_DK_valueAfterServing 26 = .ok (.if_icmp .ne 11, 3) := by decide +kernel
theorem d_DK_valueAfterServing_29 : decode b_DK_valueAfterServing 29 = .ok (.aload_n 0, 1) := by decide +kernel
theorem d_DK_valueAfterServing_30 : decode b_DK_valueAfterServing 30 = .ok (.getfield 37, 3) := by decide +kernel
theorem d_DK_valueAfterServing_33 : decode b_DK_valueAfterServing 33 = .ok (.getfield 63, 3) := by decide +kernel
theorem d_DK_valueAfterServing_36 : decode b_DK_valueAfterServing 36 = .ok (.ireturn, 1) := by decide +kernel
theorem d_DK_valueAfterServing_37 : decode b_DK_valueAfterServing 37 = .ok (.aload_n 0, 1) := by decide +kernel
theorem d_DK_valueAfterServing_38 : decode b_DK_valueAfterServing 38 = .ok (.iload_n 1, 1) := by decide +kernel
theorem d_DK_valueAfterServing_39 : decode b_DK_valueAfterServing 39 = .ok (.invokevirtual 66, 3) := by decide +kernel
theorem d_DK_valueAfterServing_42 : decode b_DK_valueAfterServing 42 = .ok (.ireturn, 1) := by decide +kernel
theorem d_DK_valueInside_0 : decode b_DK_valueInside 0 = .ok (.aload_n 0, 1) := by decide +kernel
theorem d_DK_valueInside_1 : decode b_DK_valueInside 1 = .ok (.getfield 25, 3) := by decide +kernel
theorem d_DK_valueInside_4 : decode b_DK_valueInside 4 = .ok (.iload_n 1, 1) := by decide +kernel
theorem d_DK_valueInside_5 : decode b_DK_valueInside 5 = .ok (.invokevirtual 75, 3) := by decide +kernel
theorem d_DK_valueInside_8 : decode b_DK_valueInside 8 = .ok (.astore_n 2, 1) := by decide +kernel
theorem d_DK_valueInside_9 : decode b_DK_valueInside 9 = .ok (.aload_n 2, 1) := by decide +kernel
theorem d_DK_valueInside_10 : decode b_DK_valueInside 10 = .ok (.ifnonnull 12, 3) := by decide +kernel
theorem d_DK_valueInside_13 : decode b_DK_valueInside 13 = .ok (.aload_n 0, 1) := by decide +kernel
theorem d_DK_valueInside_14 : decode b_DK_valueInside 14 = .ok (.getfield 18, 3) := by decide +kernel
theorem d_DK_valueInside_17 : decode b_DK_valueInside 17 = .ok (.iload_n 1, 1) := by decide +kernel
theorem d_DK_valueInside_18 : decode b_DK_valueInside 18 = .ok (.iaload, 1) := by decide +kernel
theorem d_DK_valueInside_19 : decode b_DK_valueInside 19 = .ok (.goto 7, 3) := by decide +kernel
theorem d_DK_valueInside_22 : decode b_DK_valueInside 22 = .ok (.aload_n 2, 1) := by decide +kernel
theorem d_DK_valueInside_23 : decode b_DK_valueInside 23 = .ok (.getfield 79, 3) := by decide +kernel
theorem d_DK_valueInside_26 : decode b_DK_valueInside 26 = .ok (.ireturn, 1) := by decide +kernel
theorem d_DK_valueOnMedia_0 : decode b_DK_valueOnMedia 0 = .ok (.aload_n 0, 1) := by decide +kernel
theorem d_DK_valueOnMedia_1 : decode b_DK_valueOnMedia 1 = .ok (.getfield 18, 3) := by decide +kernel
theorem d_DK_valueOnMedia_4 : decode b_DK_valueOnMedia 4 = .ok (.iload_n 1, 1) := by decide +kernel
theorem d_DK_valueOnMedia_5 : decode b_DK_valueOnMedia 5 = .ok (.iaload, 1) := by decide +kernel
theorem d_DK_valueOnMedia_6 : decode b_DK_valueOnMedia 6 = .ok (.ireturn, 1) := by decide +kernel
end
section
theorem d_BL_buffer_0 : decode b_BL_buffer 0 = .ok (.iload_n 1, 1) := by decide +kernel
theorem d_BL_buffer_1 : decode b_BL_buffer 1 = .ok (.invokestatic 23, 3) := by decide +kernel
theorem d_BL_buffer_4 : decode b_BL_buffer 4 = .ok (.aload_n 0, 1) := by decide +kernel
theorem d_BL_buffer_5 : decode b_BL_buffer 5 = .ok (.getfield 10, 3) := by decide +kernel
theorem d_BL_buffer_8 : decode b_BL_buffer 8 = .ok (.iload_n 1, 1) := by decide +kernel
theorem d_BL_buffer_9 : decode b_BL_buffer 9 = .ok (.invokevirtual 30, 3) := by decide +kernel
theorem d_BL_buffer_12 : decode b_BL_buffer 12 = .ok (.astore_n 2, 1) := by decide +kernel
theorem d_BL_buffer_13 : decode b_BL_buffer 13 = .ok (.aload_n 2, 1) := by decide +kernel
theorem d_BL_buffer_14 : decode b_BL_buffer 14 = .ok (.ifnonnull 5, 3) := by decide +kernel
theorem d_BL_buffer_17 : decode b_BL_buffer 17 = .ok (.iconst 0, 1) := by decide +kernel
theorem d_BL_buffer_18 : decode b_BL_buffer 18 = .ok (.ireturn, 1) := by decide +kernel
theorem d_BL_buffer_19 : decode b_BL_buffer 19 = .ok (.aload_n 2, 1) := by decide +kernel
theorem d_BL_buffer_20 : decode b_BL_buffer 20 = .ok (.getfield 70, 3) := by decide +kernel
theorem d_BL_buffer_23 : decode b_BL_buffer 23 = .ok (.ifCond .eq 7, 3) := by decide +kernel
theorem d_BL_buffer_26 : decode b_BL_buffer 26 = .ok (.iconst 2, 1) := by decide +kernel
theorem d_BL_buffer_27 : decode b_BL_buffer 27 = .ok (.goto 4, 3) := by decide +kernel
theorem d_BL_buffer_30 : decode b_BL_buffer 30 = .ok (.iconst 1, 1) := by decide +kernel
theorem d_BL_buffer_31 : decode b_BL_buffer 31 = .ok (.ireturn, 1) := by decide +kernel
theorem d_BL_crash_0 : decode b_BL_crash 0 = .ok (.iconst 0, 1) := by decide +kernel
theorem d_BL_crash_1 : decode b_BL_crash 1 = .ok (.istore_n 1, 1) := by decide +kernel
theorem d_BL_crash_2 : decode b_BL_crash 2 = .ok (.iconst 0, 1) := by decide +kernel
theorem d_BL_crash_3 : decode b_BL_crash 3 = .ok (.istore_n 2, 1) := by decide +kernel
theorem d_BL_crash_4 : decode b_BL_crash 4 = .ok (.iload_n 2, 1) := by decide +kernel
theorem d_BL_crash_5 : decode b_BL_crash 5 = .ok (.sipush 256, 3) := by decide +kernel
theorem d_BL_crash_8 : decode b_BL_crash 8 = .ok (.if_icmp .ge 28, 3) := by decide +kernel
theorem d_BL_crash_11 : decode b_BL_crash 11 = .ok (.aload_n 0, 1) := by decide +kernel
theorem d_BL_crash_12 : decode b_BL_crash 12 = .ok (.iload_n 2, 1) := by decide +kernel
theorem d_BL_crash_13 : decode b_BL_crash 13 = .ok (.invokevirtual 106, 3) := by decide +kernel
theorem d_BL_crash_16 : decode b_BL_crash 16 = .ok (.aload_n 0, 1) := by decide +kernel
theorem d_BL_crash_17 : decode b_BL_crash 17 = .ok (.getfield 19, 3) := by decide +kernel
theorem d_BL_crash_20 : decode b_BL_crash 20 = .ok (.iload_n 2, 1) := by decide +kernel
theorem d_BL_crash_21 : decode b_BL_crash 21 = .ok (.invokevirtual 110, 3) := by decide +kernel
theorem d_BL_crash_24 : decode b_BL_crash 24 = .ok (.if_icmp .eq 6, 3) := by decide +kernel
theorem d_BL_crash_27 : decode b_BL_crash 27 = .ok (.iinc 1 1, 3) := by decide +kernel
theorem d_BL_crash_30 : decode b_BL_crash 30 = .ok (.iinc 2 1, 3) := by decide +kernel
theorem d_BL_crash_33 : decode b_BL_crash 33 = .ok (.goto (-29), 3) := by decide +kernel
theorem d_BL_crash_36 : decode b_BL_crash 36 = .ok (.aload_n 0, 1) := by decide +kernel
theorem d_BL_crash_37 : decode b_BL_crash 37 = .ok (.getfield 10, 3) := by decide +kernel
theorem d_BL_crash_40 : decode b_BL_crash 40 = .ok (.invokevirtual 113, 3) := by decide +kernel
theorem d_BL_crash_43 : decode b_BL_crash 43 = .ok (.aload_n 0, 1) := by decide +kernel
theorem d_BL_crash_44 : decode b_BL_crash 44 = .ok (.getfield 19, 3) := by decide +kernel
theorem d_BL_crash_47 : decode b_BL_crash 47 = .ok (.getfield 116, 3) := by decide +kernel
theorem d_BL_crash_50 : decode b_BL_crash 50 = .ok (.invokevirtual 120, 3) := by decide +kernel
theorem d_BL_crash_53 : decode b_BL_crash 53 = .ok (.aload_n 0, 1) := by decide +kernel
theorem d_BL_crash_54 : decode b_BL_crash 54 = .ok (.getfield 19, 3) := by decide +kernel
theorem d_BL_crash_57 : decode b_BL_crash 57 = .ok (.invokevirtual 123, 3) := by decide +kernel
theorem d_BL_crash_60 : decode b_BL_crash 60 = .ok (.iload_n 1, 1) := by decide +kernel
theorem d_BL_crash_61 : decode b_BL_crash 61 = .ok (.ireturn, 1) := by decide +kernel
theorem d_BL_drain_0 : decode b_BL_drain 0 = .ok (.aload_n 0, 1) := by decide +kernel
theorem d_BL_drain_1 : decode b_BL_drain 1 = .ok (.getfield 19, 3) := by decide +kernel
theorem d_BL_drain_4 : decode b_BL_drain 4 = .ok (.getfield 94, 3) := by decide +kernel
theorem d_BL_drain_7 : decode b_BL_drain 7 = .ok (.istore_n 1, 1) := by decide +kernel
theorem d_BL_drain_8 : decode b_BL_drain 8 = .ok (.iconst 0, 1) := by decide +kernel
theorem d_BL_drain_9 : decode b_BL_drain 9 = .ok (.istore_n 2, 1) := by decide +kernel
theorem d_BL_drain_10 : decode b_BL_drain 10 = .ok (.iload_n 2, 1) := by decide +kernel
theorem d_BL_drain_11 : decode b_BL_drain 11 = .ok (.bipush 40, 2) := by decide +kernel
theorem d_BL_drain_13 : decode b_BL_drain 13 = .ok (.if_icmp .gt 26, 3) := by decide +kernel
theorem d_BL_drain_16 : decode b_BL_drain 16 = .ok (.aload_n 0, 1) := by decide +kernel
theorem d_BL_drain_17 : decode b_BL_drain 17 = .ok (.getfield 19, 3) := by decide +kernel
theorem d_BL_drain_20 : decode b_BL_drain 20 = .ok (.invokevirtual 97, 3) := by decide +kernel
theorem d_BL_drain_23 : decode b_BL_drain 23 = .ok (.ifCond .eq 16, 3) := by decide +kernel
theorem d_BL_drain_26 : decode b_BL_drain 26 = .ok (.aload_n 0, 1) := by decide +kernel
theorem d_BL_drain_27 : decode b_BL_drain 27 = .ok (.getfield 19, 3) := by decide +kernel
theorem d_BL_drain_30 : decode b_BL_drain 30 = .ok (.invokevirtual 51, 3) := by decide +kernel
theorem d_BL_drain_33 : decode b_BL_drain 33 = .ok (.iinc 2 1, 3) := by decide +kernel
theorem d_BL_drain_36 : decode b_BL_drain 36 = .ok (.goto (-26), 3) := by decide +kernel
theorem d_BL_drain_39 : decode b_BL_drain 39 = .ok (.aload_n 0, 1) := by decide +kernel
theorem d_BL_drain_40 : decode b_BL_drain 40 = .ok (.getfield 19, 3) := by decide +kernel
theorem d_BL_drain_43 : decode b_BL_drain 43 = .ok (.getfield 94, 3) := by decide +kernel
theorem d_BL_drain_46 : decode b_BL_drain 46 = .ok (.iload_n 1, 1) := by decide +kernel
theorem d_BL_drain_47 : decode b_BL_drain 47 = .ok (.isub, 1) := by decide +kernel
theorem d_BL_drain_48 : decode b_BL_drain 48 = .ok (.ireturn, 1) := by decide +kernel
theorem d_BL_init_0 : decode b_BL_init 0 = .ok (.aload_n 0, 1) := by decide +kernel
theorem d_BL_init_1 : decode b_BL_init 1 = .ok (.invokespecial 1, 3) := by decide +kernel
theorem d_BL_init_4 : decode b_BL_init 4 = .ok (.aload_n 0, 1) := by decide +kernel
theorem d_BL_init_5 : decode b_BL_init 5 = .ok (.new 7, 3) := by decide +kernel
theorem d_BL_init_8 : decode b_BL_init 8 = .ok (.dup, 1) := by decide +kernel
theorem d_BL_init_9 : decode b_BL_init 9 = .ok (.invokespecial 9, 3) := by decide +kernel
theorem d_BL_init_12 : decode b_BL_init 12 = .ok (.putfield 10, 3) := by decide +kernel
theorem d_BL_init_15 : decode b_BL_init 15 = .ok (.aload_n 0, 1) := by decide +kernel
theorem d_BL_init_16 : decode b_BL_init 16 = .ok (.new 16, 3) := by decide +kernel
theorem d_BL_init_19 : decode b_BL_init 19 = .ok (.dup, 1) := by decide +kernel
theorem d_BL_init_20 : decode b_BL_init 20 = .ok (.invokespecial 18, 3) := by decide +kernel
theorem d_BL_init_23 : decode b_BL_init 23 = .ok (.putfield 19, 3) := by decide +kernel
theorem d_BL_init_26 : decode b_BL_init 26 = .ok (.return_, 1) := by decide +kernel
theorem d_BL_liveRequest_0 : decode b_BL_liveRequest 0 = .ok (.aload_n 0, 1) := by decide +kernel
theorem d_BL_liveRequest_1 : decode b_BL_liveRequest 1 = .ok (.getfield 19, 3) := by decide +kernel
theorem d_BL_liveRequest_4 : decode b_BL_liveRequest 4 = .ok (.getfield 151, 3) := by decide +kernel
theorem d_BL_liveRequest_7 : decode b_BL_liveRequest 7 = .ok (.astore_n 2, 1) := by decide +kernel
theorem d_BL_liveRequest_8 : decode b_BL_liveRequest 8 = .ok (.aload_n 2, 1) := by decide +kernel
theorem d_BL_liveRequest_9 : decode b_BL_liveRequest 9 = .ok (.ifnull 13, 3) := by decide +kernel
theorem d_BL_liveRequest_12 : decode b_BL_liveRequest 12 = .ok (.aload_n 2, 1) := by decide +kernel
theorem d_BL_liveRequest_13 : decode b_BL_liveRequest 13 = .ok (.getfield 135, 3) := by decide +kernel
theorem d_BL_liveRequest_16 : decode b_BL_liveRequest 16 = .ok (.iload_n 1, 1) := by decide +kernel
theorem d_BL_liveRequest_17 : decode b_BL_liveRequest 17 = .ok (.if_icmp .ne 5, 3) := by decide +kernel
theorem d_BL_liveRequest_20 : decode b_BL_liveRequest 20 = .ok (.aload_n 2, 1) := by decide +kernel
theorem d_BL_liveRequest_21 : decode b_BL_liveRequest 21 = .ok (.areturn, 1) := by decide +kernel
theorem d_BL_liveRequest_22 : decode b_BL_liveRequest 22 = .ok (.aload_n 0, 1) := by decide +kernel
theorem d_BL_liveRequest_23 : decode b_BL_liveRequest 23 = .ok (.getfield 19, 3) := by decide +kernel
theorem d_BL_liveRequest_26 : decode b_BL_liveRequest 26 = .ok (.getfield 116, 3) := by decide +kernel
theorem d_BL_liveRequest_29 : decode b_BL_liveRequest 29 = .ok (.iload_n 1, 1) := by decide +kernel
theorem d_BL_liveRequest_30 : decode b_BL_liveRequest 30 = .ok (.invokevirtual 197, 3) := by decide +kernel
theorem d_BL_liveRequest_33 : decode b_BL_liveRequest 33 = .ok (.areturn, 1) := by decide +kernel
theorem d_BL_load_0 : decode b_BL_load 0 = .ok (.iload_n 1, 1) := by decide +kernel
theorem d_BL_load_1 : decode b_BL_load 1 = .ok (.invokestatic 23, 3) := by decide +kernel
theorem d_BL_load_4 : decode b_BL_load 4 = .ok (.aload_n 0, 1) := by decide +kernel
theorem d_BL_load_5 : decode b_BL_load 5 = .ok (.iconst 2, 1) := by decide +kernel
theorem d_BL_load_6 : decode b_BL_load 6 = .ok (.invokevirtual 27, 3) := by decide +kernel
theorem d_BL_load_9 : decode b_BL_load 9 = .ok (.aload_n 0, 1) := by decide +kernel
theorem d_BL_load_10 : decode b_BL_load 10 = .ok (.getfield 10, 3) := by decide +kernel
theorem d_BL_load_13 : decode b_BL_load 13 = .ok (.iload_n 1, 1) := by decide +kernel
theorem d_BL_load_14 : decode b_BL_load 14 = .ok (.invokevirtual 30, 3) := by decide +kernel
theorem d_BL_load_17 : decode b_BL_load 17 = .ok (.astore_n 2, 1) := by decide +kernel
theorem d_BL_load_18 : decode b_BL_load 18 = .ok (.aload_n 2, 1) := by decide +kernel
theorem d_BL_load_19 : decode b_BL_load 19 = .ok (.ifnonnull 71, 3) := by decide +kernel
theorem d_BL_load_22 : decode b_BL_load 22 = .ok (.aload_n 0, 1) := by decide +kernel
theorem d_BL_load_23 : decode b_BL_load 23 = .ok (.dup, 1) := by decide +kernel
theorem d_BL_load_24 : decode b_BL_load 24 = .ok (.getfield 34, 3) := by decide +kernel
theorem d_BL_load_27 : decode b_BL_load 27 = .ok (.iconst 1, 1) := by decide +kernel
theorem d_BL_load_28 : decode b_BL_load 28 = .ok (.iadd, 1) := by decide +kernel
theorem d_BL_load_29 : decode b_BL_load 29 = .ok (.putfield 34, 3) := by decide +kernel
theorem d_BL_load_32 : decode b_BL_load 32 = .ok (.aload_n 0, 1) := by decide +kernel
theorem d_BL_load_33 : decode b_BL_load 33 = .ok (.invokevirtual 38, 3) := by decide +kernel
theorem d_BL_load_36 : decode b_BL_load 36 = .ok (.aload_n 0, 1) := by decide +kernel
theorem d_BL_load_37 : decode b_BL_load 37 = .ok (.iconst 0, 1) := by decide +kernel
theorem d_BL_load_38 : decode b_BL_load 38 = .ok (.iload_n 1, 1) := by decide +kernel
theorem d_BL_load_39 : decode b_BL_load 39 = .ok (.iconst 0, 1) := by decide +kernel
theorem d_BL_load_40 : decode b_BL_load 40 = .ok (.invokevirtual 41, 3) := by decide +kernel
theorem d_BL_load_43 : decode b_BL_load 43 = .ok (.astore_n 3, 1) := by decide +kernel
theorem d_BL_load_44 : decode b_BL_load 44 = .ok (.iconst 0, 1) := by decide +kernel
theorem d_BL_load_45 : decode b_BL_load 45 = .ok (.istore 4, 2) := by decide +kernel
theorem d_BL_load_47 : decode b_BL_load 47 = .ok (.iload 4, 2) := by decide +kernel
theorem d_BL_load_49 : decode b_BL_load 49 = .ok (.bipush 40, 2) := by decide +kernel
theorem d_BL_load_51 : decode b_BL_load 51 = .ok (.if_icmp .gt 23, 3) := by decide +kernel
theorem d_BL_load_54 : decode b_BL_load 54 = .ok (.aload_n 3, 1) := by decide +kernel
theorem d_BL_load_55 : decode b_BL_load 55 = .ok (.getfield 45, 3) := by decide +kernel
theorem d_BL_load_58 : decode b_BL_load 58 = .ok (.ifCond .ne 16, 3) := by decide +kernel
theorem d_BL_load_61 : decode b_BL_load 61 = .ok (.aload_n 0, 1) := by decide +kernel
theorem d_BL_load_62 : decode b_BL_load 62 = .ok (.getfield 19, 3) := by decide +kernel
theorem d_BL_load_65 : decode b_BL_load 65 = .ok (.invokevirtual 51, 3) := by decide +kernel
theorem d_BL_load_68 : decode b_BL_load 68 = .ok (.iinc 4 1, 3) := by decide +kernel
theorem d_BL_load_71 : decode b_BL_load 71 = .ok (.goto (-24), 3) := by decide +kernel
theorem d_BL_load_74 : decode b_BL_load 74 = .ok (.new 54, 3) := by decide +kernel
theorem d_BL_load_77 : decode b_BL_load 77 = .ok (.dup, 1) := by decide +kernel
theorem d_BL_load_78 : decode b_BL_load 78 = .ok (.iload_n 1, 1) := by decide +kernel
theorem d_BL_load_79 : decode b_BL_load 79 = .ok (.aload_n 3, 1) := by decide +kernel
theorem d_BL_load_80 : decode b_BL_load 80 = .ok (.getfield 56, 3) := by decide +kernel
theorem d_BL_load_83 : decode b_BL_load 83 = .ok (.invokespecial 59, 3) := by decide +kernel
theorem d_BL_load_86 : decode b_BL_load 86 = .ok (.astore_n 2, 1) := by decide +kernel
theorem d_BL_load_87 : decode b_BL_load 87 = .ok (.goto 13, 3) := by decide +kernel
theorem d_BL_load_90 : decode b_BL_load 90 = .ok (.aload_n 0, 1) := by decide +kernel
theorem d_BL_load_91 : decode b_BL_load 91 = .ok (.dup, 1) := by decide +kernel
theorem d_BL_load_92 : decode b_BL_load 92 = .ok (.getfield 62, 3) := by decide +kernel
theorem d_BL_load_95 : decode b_BL_load 95 = .ok (.iconst 1, 1) := by decide +kernel
theorem d_BL_load_96 : decode b_BL_load 96 = .ok (.iadd, 1) := by decide +kernel
theorem d_BL_load_97 : decode b_BL_load 97 = .ok (.putfield 62, 3) := by decide +kernel
theorem d_BL_load_100 : decode b_BL_load 100 = .ok (.aload_n 0, 1) := by decide +kernel
theorem d_BL_load_101 : decode b_BL_load 101 = .ok (.getfield 10, 3) := by decide +kernel
theorem d_BL_load_104 : decode b_BL_load 104 = .ok (.aload_n 2, 1) := by decide +kernel
theorem d_BL_load_105 : decode b_BL_load 105 = .ok (.invokevirtual 65, 3) := by decide +kernel
theorem d_BL_load_108 : decode b_BL_load 108 = .ok (.aload_n 2, 1) := by decide +kernel
theorem d_BL_load_109 : decode b_BL_load 109 = .ok (.getfield 69, 3) := by decide +kernel
theorem d_BL_load_112 : decode b_BL_load 112 = .ok (.ireturn, 1) := by decide +kernel
theorem d_BL_makeBufferRoom_0 : decode b_BL_makeBufferRoom 0 = .ok (.aload_n 0, 1) := by decide +kernel
theorem d_BL_makeBufferRoom_1 : decode b_BL_makeBufferRoom 1 = .ok (.getfield 10, 3) := by decide +kernel
theorem d_BL_makeBufferRoom_4 : decode b_BL_makeBufferRoom 4 = .ok (.invokevirtual 73, 3) := by decide +kernel
theorem d_BL_makeBufferRoom_7 : decode b_BL_makeBufferRoom 7 = .ok (.bipush 10, 2) := by decide +kernel
theorem d_BL_makeBufferRoom_9 : decode b_BL_makeBufferRoom 9 = .ok (.if_icmp .ge 4, 3) := by decide +kernel
theorem d_BL_makeBufferRoom_12 : decode b_BL_makeBufferRoom 12 = .ok (.return_, 1) := by decide +kernel
theorem d_BL_makeBufferRoom_13 : decode b_BL_makeBufferRoom 13 = .ok (.aload_n 0, 1) := by decide +kernel
theorem d_BL_makeBufferRoom_14 : decode b_BL_makeBufferRoom 14 = .ok (.getfield 10, 3) := by decide +kernel
theorem d_BL_makeBufferRoom_17 : decode b_BL_makeBufferRoom 17 = .ok (.invokevirtual 181, 3) := by decide +kernel
theorem d_BL_makeBufferRoom_20 : decode b_BL_makeBufferRoom 20 = .ok (.astore_n 1, 1) := by decide +kernel
theorem d_BL_makeBufferRoom_21 : decode b_BL_makeBufferRoom 21 = .ok (.aload_n 1, 1) := by decide +kernel
theorem d_BL_makeBufferRoom_22 : decode b_BL_makeBufferRoom 22 = .ok (.ifnonnull 4, 3) := by decide +kernel
theorem d_BL_makeBufferRoom_25 : decode b_BL_makeBufferRoom 25 = .ok (.return_, 1) := by decide +kernel
theorem d_BL_makeBufferRoom_26 : decode b_BL_makeBufferRoom 26 = .ok (.aload_n 0, 1) := by decide +kernel
theorem d_BL_makeBufferRoom_27 : decode b_BL_makeBufferRoom 27 = .ok (.dup, 1) := by decide +kernel
theorem d_BL_makeBufferRoom_28 : decode b_BL_makeBufferRoom 28 = .ok (.getfield 159, 3) := by decide +kernel
theorem d_BL_makeBufferRoom_31 : decode b_BL_makeBufferRoom 31 = .ok (.iconst 1, 1) := by decide +kernel
theorem d_BL_makeBufferRoom_32 : decode b_BL_makeBufferRoom 32 = .ok (.iadd, 1) := by decide +kernel
theorem d_BL_makeBufferRoom_33 : decode b_BL_makeBufferRoom 33 = .ok (.putfield 159, 3) := by decide +kernel
theorem d_BL_makeBufferRoom_36 : decode b_BL_makeBufferRoom 36 = .ok (.aload_n 1, 1) := by decide +kernel
theorem d_BL_makeBufferRoom_37 : decode b_BL_makeBufferRoom 37 = .ok (.getfield 70, 3) := by decide +kernel
theorem d_BL_makeBufferRoom_40 : decode b_BL_makeBufferRoom 40 = .ok (.ifCond .eq 8, 3) := by decide +kernel
theorem d_BL_makeBufferRoom_43 : decode b_BL_makeBufferRoom 43 = .ok (.aload_n 0, 1) := by decide +kernel
theorem d_BL_makeBufferRoom_44 : decode b_BL_makeBufferRoom 44 = .ok (.aload_n 1, 1) := by decide +kernel
theorem d_BL_makeBufferRoom_45 : decode b_BL_makeBufferRoom 45 = .ok (.invokevirtual 81, 3) := by decide +kernel
theorem d_BL_makeBufferRoom_48 : decode b_BL_makeBufferRoom 48 = .ok (.return_, 1) := by decide +kernel
theorem d_BL_makeRequest_0 : decode b_BL_makeRequest 0 = .ok (.new 46, 3) := by decide +kernel
theorem d_BL_makeRequest_3 : decode b_BL_makeRequest 3 = .ok (.dup, 1) := by decide +kernel
theorem d_BL_makeRequest_4 : decode b_BL_makeRequest 4 = .ok (.aload_n 0, 1) := by decide +kernel
theorem d_BL_makeRequest_5 : decode b_BL_makeRequest 5 = .ok (.getfield 187, 3) := by decide +kernel
theorem d_BL_makeRequest_8 : decode b_BL_makeRequest 8 = .ok (.iload_n 1, 1) := by decide +kernel
theorem d_BL_makeRequest_9 : decode b_BL_makeRequest 9 = .ok (.iload_n 2, 1) := by decide +kernel
theorem d_BL_makeRequest_10 : decode b_BL_makeRequest 10 = .ok (.iload_n 3, 1) := by decide +kernel
theorem d_BL_makeRequest_11 : decode b_BL_makeRequest 11 = .ok (.aload_n 0, 1) := by decide +kernel
theorem d_BL_makeRequest_12 : decode b_BL_makeRequest 12 = .ok (.getfield 19, 3) := by decide +kernel
theorem d_BL_makeRequest_15 : decode b_BL_makeRequest 15 = .ok (.getfield 94, 3) := by decide +kernel
theorem d_BL_makeRequest_18 : decode b_BL_makeRequest 18 = .ok (.invokespecial 190, 3) := by decide +kernel
theorem d_BL_makeRequest_21 : decode b_BL_makeRequest 21 = .ok (.astore 4, 2) := by decide +kernel
theorem d_BL_makeRequest_23 : decode b_BL_makeRequest 23 = .ok (.aload_n 0, 1) := by decide +kernel
theorem d_BL_makeRequest_24 : decode b_BL_makeRequest 24 = .ok (.dup, 1) := by decide +kernel
theorem d_BL_makeRequest_25 : decode b_BL_makeRequest 25 = .ok (.getfield 187, 3) := by decide +kernel
theorem d_BL_makeRequest_28 : decode b_BL_makeRequest 28 = .ok (.iconst 1, 1) := by decide +kernel
theorem d_BL_makeRequest_29 : decode b_BL_makeRequest 29 = .ok (.iadd, 1) := by decide +kernel
theorem d_BL_makeRequest_30 : decode b_BL_makeRequest 30 = .ok (.putfield 187, 3) := by decide +kernel
theorem d_BL_makeRequest_33 : decode b_BL_makeRequest 33 = .ok (.aload_n 0, 1) := by decide +kernel
theorem d_BL_makeRequest_34 : decode b_BL_makeRequest 34 = .ok (.getfield 19, 3) := by decide +kernel
theorem d_BL_makeRequest_37 : decode b_BL_makeRequest 37 = .ok (.getfield 116, 3) := by decide +kernel
theorem d_BL_makeRequest_40 : decode b_BL_makeRequest 40 = .ok (.aload 4, 2) := by decide +kernel
theorem d_BL_makeRequest_42 : decode b_BL_makeRequest 42 = .ok (.invokevirtual 193, 3) := by decide +kernel
theorem d_BL_makeRequest_45 : decode b_BL_makeRequest 45 = .ok (.aload 4, 2) := by decide +kernel
theorem d_BL_makeRequest_47 : decode b_BL_makeRequest 47 = .ok (.areturn, 1) := by decide +kernel
theorem d_BL_media_0 : decode b_BL_media 0 = .ok (.iload_n 1, 1) := by decide +kernel
theorem d_BL_media_1 : decode b_BL_media 1 = .ok (.invokestatic 23, 3) := by decide +kernel
theorem d_BL_media_4 : decode b_BL_media 4 = .ok (.aload_n 0, 1) := by decide +kernel
theorem d_BL_media_5 : decode b_BL_media 5 = .ok (.getfield 19, 3) := by decide +kernel
theorem d_BL_media_8 : decode b_BL_media 8 = .ok (.iload_n 1, 1) := by decide +kernel
theorem d_BL_media_9 : decode b_BL_media 9 = .ok (.invokevirtual 110, 3) := by decide +kernel
theorem d_BL_media_12 : decode b_BL_media 12 = .ok (.ireturn, 1) := by decide +kernel
theorem d_BL_newest_0 : decode b_BL_newest 0 = .ok (.iload_n 1, 1) := by decide +kernel
theorem d_BL_newest_1 : decode b_BL_newest 1 = .ok (.invokestatic 23, 3) := by decide +kernel
theorem d_BL_newest_4 : decode b_BL_newest 4 = .ok (.aload_n 0, 1) := by decide +kernel
theorem d_BL_newest_5 : decode b_BL_newest 5 = .ok (.iload_n 1, 1) := by decide +kernel
theorem d_BL_newest_6 : decode b_BL_newest 6 = .ok (.invokevirtual 106, 3) := by decide +kernel
theorem d_BL_newest_9 : decode b_BL_newest 9 = .ok (.ireturn, 1) := by decide +kernel
theorem d_BL_newestOf_0 : decode b_BL_newestOf 0 = .ok (.aload_n 0, 1) := by decide +kernel
theorem d_BL_newestOf_1 : decode b_BL_newestOf 1 = .ok (.getfield 10, 3) := by decide +kernel
theorem d_BL_newestOf_4 : decode b_BL_newestOf 4 = .ok (.iload_n 1, 1) := by decide +kernel
theorem d_BL_newestOf_5 : decode b_BL_newestOf 5 = .ok (.invokevirtual 30, 3) := by decide +kernel
theorem d_BL_newestOf_8 : decode b_BL_newestOf 8 = .ok (.astore_n 2, 1) := by decide +kernel
theorem d_BL_newestOf_9 : decode b_BL_newestOf 9 = .ok (.aload_n 2, 1) := by decide +kernel
theorem d_BL_newestOf_10 : decode b_BL_newestOf 10 = .ok (.ifnull 8, 3) := by decide +kernel
theorem d_BL_newestOf_13 : decode b_BL_newestOf 13 = .ok (.aload_n 2, 1) := by decide +kernel
theorem d_BL_newestOf_14 : decode b_BL_newestOf 14 = .ok (.getfield 69, 3) := by decide +kernel
theorem d_BL_newestOf_17 : decode b_BL_newestOf 17 = .ok (.ireturn, 1) := by decide +kernel
theorem d_BL_newestOf_18 : decode b_BL_newestOf 18 = .ok (.aload_n 0, 1) := by decide +kernel
theorem d_BL_newestOf_19 : decode b_BL_newestOf 19 = .ok (.getfield 19, 3) := by decide +kernel
theorem d_BL_newestOf_22 : decode b_BL_newestOf 22 = .ok (.getfield 116, 3) := by decide +kernel
theorem d_BL_newestOf_25 : decode b_BL_newestOf 25 = .ok (.iload_n 1, 1) := by decide +kernel
theorem d_BL_newestOf_26 : decode b_BL_newestOf 26 = .ok (.invokevirtual 200, 3) := by decide +kernel
theorem d_BL_newestOf_29 : decode b_BL_newestOf 29 = .ok (.astore_n 3, 1) := by decide +kernel
theorem d_BL_newestOf_30 : decode b_BL_newestOf 30 = .ok (.aload_n 3, 1) := by decide +kernel
theorem d_BL_newestOf_31 : decode b_BL_newestOf 31 = .ok (.ifnonnull 14, 3) := by decide +kernel
theorem d_BL_newestOf_34 : decode b_BL_newestOf 34 = .ok (.aload_n 0, 1) := by decide +kernel
theorem d_BL_newestOf_35 : decode b_BL_newestOf 35 = .ok (.getfield 19, 3) := by decide +kernel
theorem d_BL_newestOf_38 : decode b_BL_newestOf 38 = .ok (.iload_n 1, 1) := by decide +kernel
theorem d_BL_newestOf_39 : decode b_BL_newestOf 39 = .ok (.invokevirtual 203, 3) := by decide +kernel
theorem d_BL_newestOf_42 : decode b_BL_newestOf 42 = .ok (.goto 7, 3) := by decide +kernel
theorem d_BL_newestOf_45 : decode b_BL_newestOf 45 = .ok (.aload_n 3, 1) := by decide +kernel
theorem d_BL_newestOf_46 : decode b_BL_newestOf 46 = .ok (.getfield 56, 3) := by decide +kernel
theorem d_BL_newestOf_49 : decode b_BL_newestOf 49 = .ok (.ireturn, 1) := by decide +kernel
theorem d_BL_policy_0 : decode b_BL_policy 0 = .ok (.iload_n 1, 1) := by decide +kernel
theorem d_BL_policy_1 : decode b_BL_policy 1 = .ok (.ifCond .lt 8, 3) := by decide +kernel
theorem d_BL_policy_4 : decode b_BL_policy 4 = .ok (.iload_n 1, 1) := by decide +kernel
theorem d_BL_policy_5 : decode b_BL_policy 5 = .ok (.iconst 4, 1) := by decide +kernel
theorem d_BL_policy_6 : decode b_BL_policy 6 = .ok (.if_icmp .le 13, 3) := by decide +kernel
theorem d_BL_policy_9 : decode b_BL_policy 9 = .ok (.new 84, 3) := by decide +kernel
theorem d_BL_policy_12 : decode b_BL_policy 12 = .ok (.dup, 1) := by decide +kernel
theorem d_BL_policy_13 : decode b_BL_policy 13 = .ok (.ldc 101, 2) := by decide +kernel
theorem d_BL_policy_15 : decode b_BL_policy 15 = .ok (.invokespecial 88, 3) := by decide +kernel
theorem d_BL_policy_18 : decode b_BL_policy 18 = .ok (.athrow, 1) := by decide +kernel
theorem d_BL_policy_19 : decode b_BL_policy 19 = .ok (.aload_n 0, 1) := by decide +kernel
theorem d_BL_policy_20 : decode b_BL_policy 20 = .ok (.getfield 19, 3) := by decide +kernel
theorem d_BL_policy_23 : decode b_BL_policy 23 = .ok (.getfield 103, 3) := by decide +kernel
theorem d_BL_policy_26 : decode b_BL_policy 26 = .ok (.istore_n 2, 1) := by decide +kernel
theorem d_BL_policy_27 : decode b_BL_policy 27 = .ok (.aload_n 0, 1) := by decide +kernel
theorem d_BL_policy_28 : decode b_BL_policy 28 = .ok (.getfield 19, 3) := by decide +kernel
theorem d_BL_policy_31 : decode b_BL_policy 31 = .ok (.iload_n 1, 1) := by decide +kernel
theorem d_BL_policy_32 : decode b_BL_policy 32 = .ok (.putfield 103, 3) := by decide +kernel
theorem d_BL_policy_35 : decode b_BL_policy 35 = .ok (.iload_n 2, 1) := by decide +kernel
theorem d_BL_policy_36 : decode b_BL_policy 36 = .ok (.ireturn, 1) := by decide +kernel
theorem d_BL_queued_0 : decode b_BL_queued 0 = .ok (.aload_n 0, 1) := by decide +kernel
theorem d_BL_queued_1 : decode b_BL_queued 1 = .ok (.getfield 19, 3) := by decide +kernel
theorem d_BL_queued_4 : decode b_BL_queued 4 = .ok (.getfield 116, 3) := by decide +kernel
theorem d_BL_queued_7 : decode b_BL_queued 7 = .ok (.iload_n 1, 1) := by decide +kernel
theorem d_BL_queued_8 : decode b_BL_queued 8 = .ok (.invokevirtual 132, 3) := by decide +kernel
theorem d_BL_queued_11 : decode b_BL_queued 11 = .ok (.astore_n 2, 1) := by decide +kernel
theorem d_BL_queued_12 : decode b_BL_queued 12 = .ok (.aload_n 2, 1) := by decide +kernel
theorem d_BL_queued_13 : decode b_BL_queued 13 = .ok (.ifnonnull 7, 3) := by decide +kernel
theorem d_BL_queued_16 : decode b_BL_queued 16 = .ok (.iconst (-1), 1) := by decide +kernel
theorem d_BL_queued_17 : decode b_BL_queued 17 = .ok (.goto 7, 3) := by decide +kernel
theorem d_BL_queued_20 : decode b_BL_queued 20 = .ok (.aload_n 2, 1) := by decide +kernel
theorem d_BL_queued_21 : decode b_BL_queued 21 = .ok (.getfield 135, 3) := by decide +kernel
theorem d_BL_queued_24 : decode b_BL_queued 24 = .ok (.ireturn, 1) := by decide +kernel
theorem d_BL_request_0 : decode b_BL_request 0 = .ok (.aload_n 0, 1) := by decide +kernel
theorem d_BL_request_1 : decode b_BL_request 1 = .ok (.iload_n 1, 1) := by decide +kernel
theorem d_BL_request_2 : decode b_BL_request 2 = .ok (.invokevirtual 138, 3) := by decide +kernel
theorem d_BL_request_5 : decode b_BL_request 5 = .ok (.astore_n 3, 1) := by decide +kernel
theorem d_BL_request_6 : decode b_BL_request 6 = .ok (.aload_n 3, 1) := by decide +kernel
theorem d_BL_request_7 : decode b_BL_request 7 = .ok (.ifnonnull 5, 3) := by decide +kernel
theorem d_BL_request_10 : decode b_BL_request 10 = .ok (.iconst (-1), 1) := by decide +kernel
theorem d_BL_request_11 : decode b_BL_request 11 = .ok (.ireturn, 1) := by decide +kernel
theorem d_BL_request_12 : decode b_BL_request 12 = .ok (.iload_n 2, 1) := by decide +kernel
theorem d_BL_request_13 : decode b_BL_request 13 = .ok (.tableswitch 51 0 3 #[31, 36, 41, 46], 31) := by decide +kernel
theorem d_BL_request_44 : decode b_BL_request 44 = .ok (.aload_n 3, 1) := by decide +kernel
theorem d_BL_request_45 : decode b_BL_request 45 = .ok (.getfield 141, 3) := by decide +kernel
theorem d_BL_request_48 : decode b_BL_request 48 = .ok (.ireturn, 1) := by decide +kernel
theorem d_BL_request_49 : decode b_BL_request 49 = .ok (.aload_n 3, 1) := by decide +kernel
theorem d_BL_request_50 : decode b_BL_request 50 = .ok (.getfield 144, 3) := by decide +kernel
theorem d_BL_request_53 : decode b_BL_request 53 = .ok (.ireturn, 1) := by decide +kernel
theorem d_BL_request_54 : decode b_BL_request 54 = .ok (.aload_n 3, 1) := by decide +kernel
theorem d_BL_request_55 : decode b_BL_request 55 = .ok (.getfield 56, 3) := by decide +kernel
theorem d_BL_request_58 : decode b_BL_request 58 = .ok (.ireturn, 1) := by decide +kernel
theorem d_BL_request_59 : decode b_BL_request 59 = .ok (.aload_n 3, 1) := by decide +kernel
theorem d_BL_request_60 : decode b_BL_request 60 = .ok (.getfield 145, 3) := by decide +kernel
theorem d_BL_request_63 : decode b_BL_request 63 = .ok (.ireturn, 1) := by decide +kernel
theorem d_BL_request_64 : decode b_BL_request 64 = .ok (.iconst (-1), 1) := by decide +kernel
theorem d_BL_request_65 : decode b_BL_request 65 = .ok (.ireturn, 1) := by decide +kernel
theorem d_BL_requireBlock_0 : decode b_BL_requireBlock 0 = .ok (.iload_n 0, 1) := by decide +kernel
theorem d_BL_requireBlock_1 : decode b_BL_requireBlock 1 = .ok (.ifCond .lt 10, 3) := by decide +kernel
theorem d_BL_requireBlock_4 : decode b_BL_requireBlock 4 = .ok (.iload_n 0, 1) := by decide +kernel
theorem d_BL_requireBlock_5 : decode b_BL_requireBlock 5 = .ok (.sipush 256, 3) := by decide +kernel
theorem d_BL_requireBlock_8 : decode b_BL_requireBlock 8 = .ok (.if_icmp .lt 13, 3) := by decide +kernel
theorem d_BL_requireBlock_11 : decode b_BL_requireBlock 11 = .ok (.new 171, 3) := by decide +kernel
theorem d_BL_requireBlock_14 : decode b_BL_requireBlock 14 = .ok (.dup, 1) := by decide +kernel
theorem d_BL_requireBlock_15 : decode b_BL_requireBlock 15 = .ok (.ldc 173, 2) := by decide +kernel
theorem d_BL_requireBlock_17 : decode b_BL_requireBlock 17 = .ok (.invokespecial 175, 3) := by decide +kernel
theorem d_BL_requireBlock_20 : decode b_BL_requireBlock 20 = .ok (.athrow, 1) := by decide +kernel
theorem d_BL_requireBlock_21 : decode b_BL_requireBlock 21 = .ok (.return_, 1) := by decide +kernel
theorem d_BL_requireQueueRoom_0 : decode b_BL_requireQueueRoom 0 = .ok (.aload_n 0, 1) := by decide +kernel
theorem d_BL_requireQueueRoom_1 : decode b_BL_requireQueueRoom 1 = .ok (.getfield 19, 3) := by decide +kernel
theorem d_BL_requireQueueRoom_4 : decode b_BL_requireQueueRoom 4 = .ok (.getfield 116, 3) := by decide +kernel
theorem d_BL_requireQueueRoom_7 : decode b_BL_requireQueueRoom 7 = .ok (.invokevirtual 155, 3) := by decide +kernel
theorem d_BL_requireQueueRoom_10 : decode b_BL_requireQueueRoom 10 = .ok (.iload_n 1, 1) := by decide +kernel
theorem d_BL_requireQueueRoom_11 : decode b_BL_requireQueueRoom 11 = .ok (.iadd, 1) := by decide +kernel
theorem d_BL_requireQueueRoom_12 : decode b_BL_requireQueueRoom 12 = .ok (.bipush 40, 2) := by decide +kernel
theorem d_BL_requireQueueRoom_14 : decode b_BL_requireQueueRoom 14 = .ok (.if_icmp .le 13, 3) := by decide +kernel
theorem d_BL_requireQueueRoom_17 : decode b_BL_requireQueueRoom 17 = .ok (.new 176, 3) := by decide +kernel
theorem d_BL_requireQueueRoom_20 : decode b_BL_requireQueueRoom 20 = .ok (.dup, 1) := by decide +kernel
theorem d_BL_requireQueueRoom_21 : decode b_BL_requireQueueRoom 21 = .ok (.ldc 178, 2) := by decide +kernel
theorem d_BL_requireQueueRoom_23 : decode b_BL_requireQueueRoom 23 = .ok (.invokespecial 180, 3) := by decide +kernel
theorem d_BL_requireQueueRoom_26 : decode b_BL_requireQueueRoom 26 = .ok (.athrow, 1) := by decide +kernel
theorem d_BL_requireQueueRoom_27 : decode b_BL_requireQueueRoom 27 = .ok (.return_, 1) := by decide +kernel
theorem d_BL_save_0 : decode b_BL_save 0 = .ok (.iload_n 1, 1) := by decide +kernel
theorem d_BL_save_1 : decode b_BL_save 1 = .ok (.invokestatic 23, 3) := by decide +kernel
theorem d_BL_save_4 : decode b_BL_save 4 = .ok (.aload_n 0, 1) := by decide +kernel
theorem d_BL_save_5 : decode b_BL_save 5 = .ok (.iconst 2, 1) := by decide +kernel
theorem d_BL_save_6 : decode b_BL_save 6 = .ok (.invokevirtual 27, 3) := by decide +kernel
theorem d_BL_save_9 : decode b_BL_save 9 = .ok (.aload_n 0, 1) := by decide +kernel
theorem d_BL_save_10 : decode b_BL_save 10 = .ok (.getfield 10, 3) := by decide +kernel
theorem d_BL_save_13 : decode b_BL_save 13 = .ok (.iload_n 1, 1) := by decide +kernel
theorem d_BL_save_14 : decode b_BL_save 14 = .ok (.invokevirtual 30, 3) := by decide +kernel
theorem d_BL_save_17 : decode b_BL_save 17 = .ok (.astore_n 3, 1) := by decide +kernel
theorem d_BL_save_18 : decode b_BL_save 18 = .ok (.aload_n 3, 1) := by decide +kernel
theorem d_BL_save_19 : decode b_BL_save 19 = .ok (.ifnonnull 17, 3) := by decide +kernel
theorem d_BL_save_22 : decode b_BL_save 22 = .ok (.aload_n 0, 1) := by decide +kernel
theorem d_BL_save_23 : decode b_BL_save 23 = .ok (.invokevirtual 38, 3) := by decide +kernel
theorem d_BL_save_26 : decode b_BL_save 26 = .ok (.new 54, 3) := by decide +kernel
theorem d_BL_save_29 : decode b_BL_save 29 = .ok (.dup, 1) := by decide +kernel
theorem d_BL_save_30 : decode b_BL_save 30 = .ok (.iload_n 1, 1) := by decide +kernel
theorem d_BL_save_31 : decode b_BL_save 31 = .ok (.iconst 0, 1) := by decide +kernel
theorem d_BL_save_32 : decode b_BL_save 32 = .ok (.invokespecial 59, 3) := by decide +kernel
theorem d_BL_save_35 : decode b_BL_save 35 = .ok (.astore_n 3, 1) := by decide +kernel
theorem d_BL_save_36 : decode b_BL_save 36 = .ok (.aload_n 3, 1) := by decide +kernel
theorem d_BL_save_37 : decode b_BL_save 37 = .ok (.getfield 69, 3) := by decide +kernel
theorem d_BL_save_40 : decode b_BL_save 40 = .ok (.istore 4, 2) := by decide +kernel
theorem d_BL_save_42 : decode b_BL_save 42 = .ok (.aload_n 3, 1) := by decide +kernel
theorem d_BL_save_43 : decode b_BL_save 43 = .ok (.iload_n 2, 1) := by decide +kernel
theorem d_BL_save_44 : decode b_BL_save 44 = .ok (.putfield 69, 3) := by decide +kernel
theorem d_BL_save_47 : decode b_BL_save 47 = .ok (.aload_n 3, 1) := by decide +kernel
theorem d_BL_save_48 : decode b_BL_save 48 = .ok (.iconst 1, 1) := by decide +kernel
theorem d_BL_save_49 : decode b_BL_save 49 = .ok (.putfield 70, 3) := by decide +kernel
theorem d_BL_save_52 : decode b_BL_save 52 = .ok (.aload_n 0, 1) := by decide +kernel
theorem d_BL_save_53 : decode b_BL_save 53 = .ok (.getfield 10, 3) := by decide +kernel
theorem d_BL_save_56 : decode b_BL_save 56 = .ok (.aload_n 3, 1) := by decide +kernel
theorem d_BL_save_57 : decode b_BL_save 57 = .ok (.invokevirtual 65, 3) := by decide +kernel
theorem d_BL_save_60 : decode b_BL_save 60 = .ok (.iload 4, 2) := by decide +kernel
theorem d_BL_save_62 : decode b_BL_save 62 = .ok (.ireturn, 1) := by decide +kernel
theorem d_BL_step_0 : decode b_BL_step 0 = .ok (.iload_n 1, 1) := by decide +kernel
theorem d_BL_step_1 : decode b_BL_step 1 = .ok (.iconst 1, 1) := by decide +kernel
theorem d_BL_step_2 : decode b_BL_step 2 = .ok (.if_icmp .lt 10, 3) := by decide +kernel
theorem d_BL_step_5 : decode b_BL_step 5 = .ok (.iload_n 1, 1) := by decide +kernel
theorem d_BL_step_6 : decode b_BL_step 6 = .ok (.sipush 1000, 3) := by decide +kernel
theorem d_BL_step_9 : decode b_BL_step 9 = .ok (.if_icmp .le 13, 3) := by decide +kernel
theorem d_BL_step_12 : decode b_BL_step 12 = .ok (.new 84, 3) := by decide +kernel
theorem d_BL_step_15 : decode b_BL_step 15 = .ok (.dup, 1) := by decide +kernel
theorem d_BL_step_16 : decode b_BL_step 16 = .ok (.ldc 86, 2) := by decide +kernel
theorem d_BL_step_18 : decode b_BL_step 18 = .ok (.invokespecial 88, 3) := by decide +kernel
theorem d_BL_step_21 : decode b_BL_step 21 = .ok (.athrow, 1) := by decide +kernel
theorem d_BL_step_22 : decode b_BL_step 22 = .ok (.aload_n 0, 1) := by decide +kernel
theorem d_BL_step_23 : decode b_BL_step 23 = .ok (.getfield 19, 3) := by decide +kernel
theorem d_BL_step_26 : decode b_BL_step 26 = .ok (.iload_n 1, 1) := by decide +kernel
theorem d_BL_step_27 : decode b_BL_step 27 = .ok (.invokevirtual 91, 3) := by decide +kernel
theorem d_BL_step_30 : decode b_BL_step 30 = .ok (.aload_n 0, 1) := by decide +kernel
theorem d_BL_step_31 : decode b_BL_step 31 = .ok (.getfield 19, 3) := by decide +kernel
theorem d_BL_step_34 : decode b_BL_step 34 = .ok (.getfield 94, 3) := by decide +kernel
theorem d_BL_step_37 : decode b_BL_step 37 = .ok (.ireturn, 1) := by decide +kernel
theorem d_BL_sync_0 : decode b_BL_sync 0 = .ok (.aload_n 0, 1) := by decide +kernel
theorem d_BL_sync_1 : decode b_BL_sync 1 = .ok (.aload_n 0, 1) := by decide +kernel
theorem d_BL_sync_2 : decode b_BL_sync 2 = .ok (.getfield 10, 3) := by decide +kernel
theorem d_BL_sync_5 : decode b_BL_sync 5 = .ok (.invokevirtual 73, 3) := by decide +kernel
theorem d_BL_sync_8 : decode b_BL_sync 8 = .ok (.iconst 1, 1) := by decide +kernel
theorem d_BL_sync_9 : decode b_BL_sync 9 = .ok (.iadd, 1) := by decide +kernel
theorem d_BL_sync_10 : decode b_BL_sync 10 = .ok (.invokevirtual 27, 3) := by decide +kernel
theorem d_BL_sync_13 : decode b_BL_sync 13 = .ok (.iconst 0, 1) := by decide +kernel
theorem d_BL_sync_14 : decode b_BL_sync 14 = .ok (.istore_n 1, 1) := by decide +kernel
theorem d_BL_sync_15 : decode b_BL_sync 15 = .ok (.iconst 0, 1) := by decide +kernel
theorem d_BL_sync_16 : decode b_BL_sync 16 = .ok (.istore_n 2, 1) := by decide +kernel
theorem d_BL_sync_17 : decode b_BL_sync 17 = .ok (.iload_n 2, 1) := by decide +kernel
theorem d_BL_sync_18 : decode b_BL_sync 18 = .ok (.bipush 10, 2) := by decide +kernel
theorem d_BL_sync_20 : decode b_BL_sync 20 = .ok (.if_icmp .ge 37, 3) := by decide +kernel
theorem d_BL_sync_23 : decode b_BL_sync 23 = .ok (.aload_n 0, 1) := by decide +kernel
theorem d_BL_sync_24 : decode b_BL_sync 24 = .ok (.getfield 10, 3) := by decide +kernel
theorem d_BL_sync_27 : decode b_BL_sync 27 = .ok (.invokevirtual 77, 3) := by decide +kernel
theorem d_BL_sync_30 : decode b_BL_sync 30 = .ok (.astore_n 3, 1) := by decide +kernel
theorem d_BL_sync_31 : decode b_BL_sync 31 = .ok (.aload_n 3, 1) := by decide +kernel
theorem d_BL_sync_32 : decode b_BL_sync 32 = .ok (.ifnonnull 6, 3) := by decide +kernel
theorem d_BL_sync_35 : decode b_BL_sync 35 = .ok (.goto 22, 3) := by decide +kernel
theorem d_BL_sync_38 : decode b_BL_sync 38 = .ok (.aload_n 0, 1) := by decide +kernel
theorem d_BL_sync_39 : decode b_BL_sync 39 = .ok (.aload_n 3, 1) := by decide +kernel
theorem d_BL_sync_40 : decode b_BL_sync 40 = .ok (.invokevirtual 81, 3) := by decide +kernel
theorem d_BL_sync_43 : decode b_BL_sync 43 = .ok (.aload_n 3, 1) := by decide +kernel
theorem d_BL_sync_44 : decode b_BL_sync 44 = .ok (.iconst 0, 1) := by decide +kernel
theorem d_BL_sync_45 : decode b_BL_sync 45 = .ok (.putfield 70, 3) := by decide +kernel
theorem d_BL_sync_48 : decode b_BL_sync 48 = .ok (.iinc 1 1, 3) := by decide +kernel
theorem d_BL_sync_51 : decode b_BL_sync 51 = .ok (.iinc 2 1, 3) := by decide +kernel
theorem d_BL_sync_54 : decode b_BL_sync 54 = .ok (.goto (-37), 3) := by decide +kernel
theorem d_BL_sync_57 : decode b_BL_sync 57 = .ok (.aload_n 0, 1) := by decide +kernel
theorem d_BL_sync_58 : decode b_BL_sync 58 = .ok (.iconst 2, 1) := by decide +kernel
theorem d_BL_sync_59 : decode b_BL_sync 59 = .ok (.iconst (-1), 1) := by decide +kernel
theorem d_BL_sync_60 : decode b_BL_sync 60 = .ok (.iconst 0, 1) := by decide +kernel
theorem d_BL_sync_61 : decode b_BL_sync 61 = .ok (.invokevirtual 41, 3) := by decide +kernel
theorem d_BL_sync_64 : decode b_BL_sync 64 = .ok (.pop, 1) := by decide +kernel
theorem d_BL_sync_65 : decode b_BL_sync 65 = .ok (.iload_n 1, 1) := by decide +kernel
theorem d_BL_sync_66 : decode b_BL_sync 66 = .ok (.ireturn, 1) := by decide +kernel
theorem d_BL_told_0 : decode b_BL_told 0 = .ok (.iload_n 1, 1) := by decide +kernel
theorem d_BL_told_1 : decode b_BL_told 1 = .ok (.tableswitch 170 0 11 #[63, 71, 79, 104, 115, 126, 134, 139, 144, 149, 154, 162], 63) := by decide +kernel
theorem d_BL_told_64 : decode b_BL_told 64 = .ok (.aload_n 0, 1) := by decide +kernel
theorem d_BL_told_65 : decode b_BL_told 65 = .ok (.getfield 19, 3) := by decide +kernel
theorem d_BL_told_68 : decode b_BL_told 68 = .ok (.getfield 94, 3) := by decide +kernel
theorem d_BL_told_71 : decode b_BL_told 71 = .ok (.ireturn, 1) := by decide +kernel
theorem d_BL_told_72 : decode b_BL_told 72 = .ok (.aload_n 0, 1) := by decide +kernel
theorem d_BL_told_73 : decode b_BL_told 73 = .ok (.getfield 19, 3) := by decide +kernel
theorem d_BL_told_76 : decode b_BL_told 76 = .ok (.getfield 148, 3) := by decide +kernel
theorem d_BL_told_79 : decode b_BL_told 79 = .ok (.ireturn, 1) := by decide +kernel
theorem d_BL_told_80 : decode b_BL_told 80 = .ok (.aload_n 0, 1) := by decide +kernel
theorem d_BL_told_81 : decode b_BL_told 81 = .ok (.getfield 19, 3) := by decide +kernel
theorem d_BL_told_84 : decode b_BL_told 84 = .ok (.getfield 151, 3) := by decide +kernel
theorem d_BL_told_87 : decode b_BL_told 87 = .ok (.ifnonnull 7, 3) := by decide +kernel
theorem d_BL_told_90 : decode b_BL_told 90 = .ok (.iconst (-1), 1) := by decide +kernel
theorem d_BL_told_91 : decode b_BL_told 91 = .ok (.goto 13, 3) := by decide +kernel
theorem d_BL_told_94 : decode b_BL_told 94 = .ok (.aload_n 0, 1) := by decide +kernel
theorem d_BL_told_95 : decode b_BL_told 95 = .ok (.getfield 19, 3) := by decide +kernel
theorem d_BL_told_98 : decode b_BL_told 98 = .ok (.getfield 151, 3) := by decide +kernel
theorem d_BL_told_101 : decode b_BL_told 101 = .ok (.getfield 135, 3) := by decide +kernel
theorem d_BL_told_104 : decode b_BL_told 104 = .ok (.ireturn, 1) := by decide +kernel
theorem d_BL_told_105 : decode b_BL_told 105 = .ok (.aload_n 0, 1) := by decide +kernel
theorem d_BL_told_106 : decode b_BL_told 106 = .ok (.getfield 19, 3) := by decide +kernel
end
section
theorem d_BL_told_109 : decode b_BL_told 109 = .ok (.getfield 116, 3) := by decide +kernel
theorem d_BL_told_112 : decode b_BL_told 112 = .ok (.invokevirtual 155, 3) := by decide +kernel
theorem d_BL_told_115 : decode b_BL_told 115 = .ok (.ireturn, 1) := by decide +kernel
theorem d_BL_told_116 : decode b_BL_told 116 = .ok (.aload_n 0, 1) := by decide +kernel
theorem d_BL_told_117 : decode b_BL_told 117 = .ok (.getfield 19, 3) := by decide +kernel
theorem d_BL_told_120 : decode b_BL_told 120 = .ok (.getfield 156, 3) := by decide +kernel
theorem d_BL_told_123 : decode b_BL_told 123 = .ok (.invokevirtual 73, 3) := by decide +kernel
theorem d_BL_told_126 : decode b_BL_told 126 = .ok (.ireturn, 1) := by decide +kernel
theorem d_BL_told_127 : decode b_BL_told 127 = .ok (.aload_n 0, 1) := by decide +kernel
theorem d_BL_told_128 : decode b_BL_told 128 = .ok (.getfield 10, 3) := by decide +kernel
theorem d_BL_told_131 : decode b_BL_told 131 = .ok (.invokevirtual 73, 3) := by decide +kernel
theorem d_BL_told_134 : decode b_BL_told 134 = .ok (.ireturn, 1) := by decide +kernel
theorem d_BL_told_135 : decode b_BL_told 135 = .ok (.aload_n 0, 1) := by decide +kernel
theorem d_BL_told_136 : decode b_BL_told 136 = .ok (.getfield 62, 3) := by decide +kernel
theorem d_BL_told_139 : decode b_BL_told 139 = .ok (.ireturn, 1) := by decide +kernel
theorem d_BL_told_140 : decode b_BL_told 140 = .ok (.aload_n 0, 1) := by decide +kernel
theorem d_BL_told_141 : decode b_BL_told 141 = .ok (.getfield 34, 3) := by decide +kernel
theorem d_BL_told_144 : decode b_BL_told 144 = .ok (.ireturn, 1) := by decide +kernel
theorem d_BL_told_145 : decode b_BL_told 145 = .ok (.aload_n 0, 1) := by decide +kernel
theorem d_BL_told_146 : decode b_BL_told 146 = .ok (.getfield 159, 3) := by decide +kernel
theorem d_BL_told_149 : decode b_BL_told 149 = .ok (.ireturn, 1) := by decide +kernel
theorem d_BL_told_150 : decode b_BL_told 150 = .ok (.aload_n 0, 1) := by decide +kernel
theorem d_BL_told_151 : decode b_BL_told 151 = .ok (.getfield 162, 3) := by decide +kernel
theorem d_BL_told_154 : decode b_BL_told 154 = .ok (.ireturn, 1) := by decide +kernel
theorem d_BL_told_155 : decode b_BL_told 155 = .ok (.aload_n 0, 1) := by decide +kernel
theorem d_BL_told_156 : decode b_BL_told 156 = .ok (.getfield 19, 3) := by decide +kernel
theorem d_BL_told_159 : decode b_BL_told 159 = .ok (.getfield 165, 3) := by decide +kernel
theorem d_BL_told_162 : decode b_BL_told 162 = .ok (.ireturn, 1) := by decide +kernel
theorem d_BL_told_163 : decode b_BL_told 163 = .ok (.aload_n 0, 1) := by decide +kernel
theorem d_BL_told_164 : decode b_BL_told 164 = .ok (.getfield 19, 3) := by decide +kernel
theorem d_BL_told_167 : decode b_BL_told 167 = .ok (.getfield 168, 3) := by decide +kernel
theorem d_BL_told_170 : decode b_BL_told 170 = .ok (.ireturn, 1) := by decide +kernel
theorem d_BL_told_171 : decode b_BL_told 171 = .ok (.iconst (-1), 1) := by decide +kernel
theorem d_BL_told_172 : decode b_BL_told 172 = .ok (.ireturn, 1) := by decide +kernel
theorem d_BL_trackOf_0 : decode b_BL_trackOf 0 = .ok (.iload_n 0, 1) := by decide +kernel
theorem d_BL_trackOf_1 : decode b_BL_trackOf 1 = .ok (.bipush 8, 2) := by decide +kernel
theorem d_BL_trackOf_3 : decode b_BL_trackOf 3 = .ok (.idiv, 1) := by decide +kernel
theorem d_BL_trackOf_4 : decode b_BL_trackOf 4 = .ok (.ireturn, 1) := by decide +kernel
theorem d_BL_used_0 : decode b_BL_used 0 = .ok (.aload_n 0, 1) := by decide +kernel
theorem d_BL_used_1 : decode b_BL_used 1 = .ok (.getfield 10, 3) := by decide +kernel
theorem d_BL_used_4 : decode b_BL_used 4 = .ok (.iload_n 1, 1) := by decide +kernel
theorem d_BL_used_5 : decode b_BL_used 5 = .ok (.invokevirtual 126, 3) := by decide +kernel
theorem d_BL_used_8 : decode b_BL_used 8 = .ok (.astore_n 2, 1) := by decide +kernel
theorem d_BL_used_9 : decode b_BL_used 9 = .ok (.aload_n 2, 1) := by decide +kernel
theorem d_BL_used_10 : decode b_BL_used 10 = .ok (.ifnonnull 7, 3) := by decide +kernel
theorem d_BL_used_13 : decode b_BL_used 13 = .ok (.iconst (-1), 1) := by decide +kernel
theorem d_BL_used_14 : decode b_BL_used 14 = .ok (.goto 7, 3) := by decide +kernel
theorem d_BL_used_17 : decode b_BL_used 17 = .ok (.aload_n 2, 1) := by decide +kernel
theorem d_BL_used_18 : decode b_BL_used 18 = .ok (.getfield 129, 3) := by decide +kernel
theorem d_BL_used_21 : decode b_BL_used 21 = .ok (.ireturn, 1) := by decide +kernel
theorem d_BL_writeBack_0 : decode b_BL_writeBack 0 = .ok (.aload_n 0, 1) := by decide +kernel
theorem d_BL_writeBack_1 : decode b_BL_writeBack 1 = .ok (.getfield 19, 3) := by decide +kernel
theorem d_BL_writeBack_4 : decode b_BL_writeBack 4 = .ok (.getfield 116, 3) := by decide +kernel
theorem d_BL_writeBack_7 : decode b_BL_writeBack 7 = .ok (.aload_n 1, 1) := by decide +kernel
theorem d_BL_writeBack_8 : decode b_BL_writeBack 8 = .ok (.getfield 129, 3) := by decide +kernel
theorem d_BL_writeBack_11 : decode b_BL_writeBack 11 = .ok (.invokevirtual 184, 3) := by decide +kernel
theorem d_BL_writeBack_14 : decode b_BL_writeBack 14 = .ok (.astore_n 2, 1) := by decide +kernel
theorem d_BL_writeBack_15 : decode b_BL_writeBack 15 = .ok (.aload_n 2, 1) := by decide +kernel
theorem d_BL_writeBack_16 : decode b_BL_writeBack 16 = .ok (.ifnonnull 20, 3) := by decide +kernel
theorem d_BL_writeBack_19 : decode b_BL_writeBack 19 = .ok (.aload_n 0, 1) := by decide +kernel
theorem d_BL_writeBack_20 : decode b_BL_writeBack 20 = .ok (.iconst 1, 1) := by decide +kernel
theorem d_BL_writeBack_21 : decode b_BL_writeBack 21 = .ok (.aload_n 1, 1) := by decide +kernel
theorem d_BL_writeBack_22 : decode b_BL_writeBack 22 = .ok (.getfield 129, 3) := by decide +kernel
theorem d_BL_writeBack_25 : decode b_BL_writeBack 25 = .ok (.aload_n 1, 1) := by decide +kernel
theorem d_BL_writeBack_26 : decode b_BL_writeBack 26 = .ok (.getfield 69, 3) := by decide +kernel
theorem d_BL_writeBack_29 : decode b_BL_writeBack 29 = .ok (.invokevirtual 41, 3) := by decide +kernel
theorem d_BL_writeBack_32 : decode b_BL_writeBack 32 = .ok (.pop, 1) := by decide +kernel
theorem d_BL_writeBack_33 : decode b_BL_writeBack 33 = .ok (.goto 21, 3) := by decide +kernel
theorem d_BL_writeBack_36 : decode b_BL_writeBack 36 = .ok (.aload_n 2, 1) := by decide +kernel
theorem d_BL_writeBack_37 : decode b_BL_writeBack 37 = .ok (.aload_n 1, 1) := by decide +kernel
theorem d_BL_writeBack_38 : decode b_BL_writeBack 38 = .ok (.getfield 69, 3) := by decide +kernel
theorem d_BL_writeBack_41 : decode b_BL_writeBack 41 = .ok (.putfield 56, 3) := by decide +kernel
theorem d_BL_writeBack_44 : decode b_BL_writeBack 44 = .ok (.aload_n 0, 1) := by decide +kernel
theorem d_BL_writeBack_45 : decode b_BL_writeBack 45 = .ok (.dup, 1) := by decide +kernel
theorem d_BL_writeBack_46 : decode b_BL_writeBack 46 = .ok (.getfield 162, 3) := by decide +kernel
theorem d_BL_writeBack_49 : decode b_BL_writeBack 49 = .ok (.iconst 1, 1) := by decide +kernel
theorem d_BL_writeBack_50 : decode b_BL_writeBack 50 = .ok (.iadd, 1) := by decide +kernel
theorem d_BL_writeBack_51 : decode b_BL_writeBack 51 = .ok (.putfield 162, 3) := by decide +kernel
theorem d_BL_writeBack_54 : decode b_BL_writeBack 54 = .ok (.return_, 1) := by decide +kernel
end
section
theorem d_AB_init_0 : decode b_AB_init 0 = .ok (.aload_n 0, 1) := by decide +kernel
theorem d_AB_init_1 : decode b_AB_init 1 = .ok (.invokespecial 1, 3) := by decide +kernel
theorem d_AB_init_4 : decode b_AB_init 4 = .ok (.aload_n 0, 1) := by decide +kernel
theorem d_AB_init_5 : decode b_AB_init 5 = .ok (.iconst 0, 1) := by decide +kernel
theorem d_AB_init_6 : decode b_AB_init 6 = .ok (.putfield 7, 3) := by decide +kernel
theorem d_AB_init_9 : decode b_AB_init 9 = .ok (.return_, 1) := by decide +kernel
theorem d_AC_init_0 : decode b_AC_init 0 = .ok (.aload_n 0, 1) := by decide +kernel
theorem d_AC_init_1 : decode b_AC_init 1 = .ok (.invokespecial 1, 3) := by decide +kernel
theorem d_AC_init_4 : decode b_AC_init 4 = .ok (.return_, 1) := by decide +kernel
theorem d_AL_add0_0 : decode b_AL_add0 0 = .ok (.aload_n 0, 1) := by decide +kernel
theorem d_AL_add0_1 : decode b_AL_add0 1 = .ok (.dup, 1) := by decide +kernel
theorem d_AL_add0_2 : decode b_AL_add0 2 = .ok (.getfield 63, 3) := by decide +kernel
theorem d_AL_add0_5 : decode b_AL_add0 5 = .ok (.iconst 1, 1) := by decide +kernel
theorem d_AL_add0_6 : decode b_AL_add0 6 = .ok (.iadd, 1) := by decide +kernel
theorem d_AL_add0_7 : decode b_AL_add0 7 = .ok (.putfield 63, 3) := by decide +kernel
theorem d_AL_add0_10 : decode b_AL_add0 10 = .ok (.aload_n 0, 1) := by decide +kernel
theorem d_AL_add0_11 : decode b_AL_add0 11 = .ok (.aload_n 1, 1) := by decide +kernel
theorem d_AL_add0_12 : decode b_AL_add0 12 = .ok (.aload_n 0, 1) := by decide +kernel
theorem d_AL_add0_13 : decode b_AL_add0 13 = .ok (.getfield 9, 3) := by decide +kernel
theorem d_AL_add0_16 : decode b_AL_add0 16 = .ok (.aload_n 0, 1) := by decide +kernel
theorem d_AL_add0_17 : decode b_AL_add0 17 = .ok (.getfield 48, 3) := by decide +kernel
theorem d_AL_add0_20 : decode b_AL_add0 20 = .ok (.invokevirtual 131, 3) := by decide +kernel
theorem d_AL_add0_23 : decode b_AL_add0 23 = .ok (.iconst 1, 1) := by decide +kernel
theorem d_AL_add0_24 : decode b_AL_add0 24 = .ok (.ireturn, 1) := by decide +kernel
theorem d_AL_add1_0 : decode b_AL_add1 0 = .ok (.iload_n 3, 1) := by decide +kernel
theorem d_AL_add1_1 : decode b_AL_add1 1 = .ok (.aload_n 2, 1) := by decide +kernel
theorem d_AL_add1_2 : decode b_AL_add1 2 = .ok (.arraylength, 1) := by decide +kernel
theorem d_AL_add1_3 : decode b_AL_add1 3 = .ok (.if_icmp .ne 8, 3) := by decide +kernel
theorem d_AL_add1_6 : decode b_AL_add1 6 = .ok (.aload_n 0, 1) := by decide +kernel
theorem d_AL_add1_7 : decode b_AL_add1 7 = .ok (.invokevirtual 129, 3) := by decide +kernel
theorem d_AL_add1_10 : decode b_AL_add1 10 = .ok (.astore_n 2, 1) := by decide +kernel
theorem d_AL_add1_11 : decode b_AL_add1 11 = .ok (.aload_n 2, 1) := by decide +kernel
theorem d_AL_add1_12 : decode b_AL_add1 12 = .ok (.iload_n 3, 1) := by decide +kernel
theorem d_AL_add1_13 : decode b_AL_add1 13 = .ok (.aload_n 1, 1) := by decide +kernel
theorem d_AL_add1_14 : decode b_AL_add1 14 = .ok (.aastore, 1) := by decide +kernel
theorem d_AL_add1_15 : decode b_AL_add1 15 = .ok (.aload_n 0, 1) := by decide +kernel
theorem d_AL_add1_16 : decode b_AL_add1 16 = .ok (.iload_n 3, 1) := by decide +kernel
theorem d_AL_add1_17 : decode b_AL_add1 17 = .ok (.iconst 1, 1) := by decide +kernel
theorem d_AL_add1_18 : decode b_AL_add1 18 = .ok (.iadd, 1) := by decide +kernel
theorem d_AL_add1_19 : decode b_AL_add1 19 = .ok (.putfield 48, 3) := by decide +kernel
theorem d_AL_add1_22 : decode b_AL_add1 22 = .ok (.return_, 1) := by decide +kernel
theorem d_AL_clear_0 : decode b_AL_clear 0 = .ok (.aload_n 0, 1) := by decide +kernel
theorem d_AL_clear_1 : decode b_AL_clear 1 = .ok (.dup, 1) := by decide +kernel
theorem d_AL_clear_2 : decode b_AL_clear 2 = .ok (.getfield 63, 3) := by decide +kernel
theorem d_AL_clear_5 : decode b_AL_clear 5 = .ok (.iconst 1, 1) := by decide +kernel
theorem d_AL_clear_6 : decode b_AL_clear 6 = .ok (.iadd, 1) := by decide +kernel
theorem d_AL_clear_7 : decode b_AL_clear 7 = .ok (.putfield 63, 3) := by decide +kernel
theorem d_AL_clear_10 : decode b_AL_clear 10 = .ok (.aload_n 0, 1) := by decide +kernel
theorem d_AL_clear_11 : decode b_AL_clear 11 = .ok (.getfield 9, 3) := by decide +kernel
theorem d_AL_clear_14 : decode b_AL_clear 14 = .ok (.astore_n 1, 1) := by decide +kernel
theorem d_AL_clear_15 : decode b_AL_clear 15 = .ok (.aload_n 0, 1) := by decide +kernel
theorem d_AL_clear_16 : decode b_AL_clear 16 = .ok (.getfield 48, 3) := by decide +kernel
theorem d_AL_clear_19 : decode b_AL_clear 19 = .ok (.istore_n 2, 1) := by decide +kernel
theorem d_AL_clear_20 : decode b_AL_clear 20 = .ok (.aload_n 0, 1) := by decide +kernel
theorem d_AL_clear_21 : decode b_AL_clear 21 = .ok (.iconst 0, 1) := by decide +kernel
theorem d_AL_clear_22 : decode b_AL_clear 22 = .ok (.dup_x1, 1) := by decide +kernel
theorem d_AL_clear_23 : decode b_AL_clear 23 = .ok (.putfield 48, 3) := by decide +kernel
theorem d_AL_clear_26 : decode b_AL_clear 26 = .ok (.istore_n 3, 1) := by decide +kernel
theorem d_AL_clear_27 : decode b_AL_clear 27 = .ok (.iload_n 3, 1) := by decide +kernel
theorem d_AL_clear_28 : decode b_AL_clear 28 = .ok (.iload_n 2, 1) := by decide +kernel
theorem d_AL_clear_29 : decode b_AL_clear 29 = .ok (.if_icmp .ge 13, 3) := by decide +kernel
theorem d_AL_clear_32 : decode b_AL_clear 32 = .ok (.aload_n 1, 1) := by decide +kernel
theorem d_AL_clear_33 : decode b_AL_clear 33 = .ok (.iload_n 3, 1) := by decide +kernel
theorem d_AL_clear_34 : decode b_AL_clear 34 = .ok (.aconst_null, 1) := by decide +kernel
theorem d_AL_clear_35 : decode b_AL_clear 35 = .ok (.aastore, 1) := by decide +kernel
theorem d_AL_clear_36 : decode b_AL_clear 36 = .ok (.iinc 3 1, 3) := by decide +kernel
theorem d_AL_clear_39 : decode b_AL_clear 39 = .ok (.goto (-12), 3) := by decide +kernel
theorem d_AL_clear_42 : decode b_AL_clear 42 = .ok (.return_, 1) := by decide +kernel
theorem d_AL_elementData_0 : decode b_AL_elementData 0 = .ok (.aload_n 0, 1) := by decide +kernel
theorem d_AL_elementData_1 : decode b_AL_elementData 1 = .ok (.getfield 9, 3) := by decide +kernel
theorem d_AL_elementData_4 : decode b_AL_elementData 4 = .ok (.iload_n 1, 1) := by decide +kernel
theorem d_AL_elementData_5 : decode b_AL_elementData 5 = .ok (.aaload, 1) := by decide +kernel
theorem d_AL_elementData_6 : decode b_AL_elementData 6 = .ok (.areturn, 1) := by decide +kernel
theorem d_AL_fastRemove_0 : decode b_AL_fastRemove 0 = .ok (.aload_n 0, 1) := by decide +kernel
theorem d_AL_fastRemove_1 : decode b_AL_fastRemove 1 = .ok (.dup, 1) := by decide +kernel
theorem d_AL_fastRemove_2 : decode b_AL_fastRemove 2 = .ok (.getfield 63, 3) := by decide +kernel
theorem d_AL_fastRemove_5 : decode b_AL_fastRemove 5 = .ok (.iconst 1, 1) := by decide +kernel
theorem d_AL_fastRemove_6 : decode b_AL_fastRemove 6 = .ok (.iadd, 1) := by decide +kernel
theorem d_AL_fastRemove_7 : decode b_AL_fastRemove 7 = .ok (.putfield 63, 3) := by decide +kernel
theorem d_AL_fastRemove_10 : decode b_AL_fastRemove 10 = .ok (.aload_n 0, 1) := by decide +kernel
theorem d_AL_fastRemove_11 : decode b_AL_fastRemove 11 = .ok (.getfield 48, 3) := by decide +kernel
theorem d_AL_fastRemove_14 : decode b_AL_fastRemove 14 = .ok (.iconst 1, 1) := by decide +kernel
theorem d_AL_fastRemove_15 : decode b_AL_fastRemove 15 = .ok (.isub, 1) := by decide +kernel
theorem d_AL_fastRemove_16 : decode b_AL_fastRemove 16 = .ok (.dup, 1) := by decide +kernel
theorem d_AL_fastRemove_17 : decode b_AL_fastRemove 17 = .ok (.istore_n 3, 1) := by decide +kernel
theorem d_AL_fastRemove_18 : decode b_AL_fastRemove 18 = .ok (.iload_n 2, 1) := by decide +kernel
theorem d_AL_fastRemove_19 : decode b_AL_fastRemove 19 = .ok (.if_icmp .le 15, 3) := by decide +kernel
theorem d_AL_fastRemove_22 : decode b_AL_fastRemove 22 = .ok (.aload_n 1, 1) := by decide +kernel
theorem d_AL_fastRemove_23 : decode b_AL_fastRemove 23 = .ok (.iload_n 2, 1) := by decide +kernel
theorem d_AL_fastRemove_24 : decode b_AL_fastRemove 24 = .ok (.iconst 1, 1) := by decide +kernel
theorem d_AL_fastRemove_25 : decode b_AL_fastRemove 25 = .ok (.iadd, 1) := by decide +kernel
theorem d_AL_fastRemove_26 : decode b_AL_fastRemove 26 = .ok (.aload_n 1, 1) := by decide +kernel
theorem d_AL_fastRemove_27 : decode b_AL_fastRemove 27 = .ok (.iload_n 2, 1) := by decide +kernel
theorem d_AL_fastRemove_28 : decode b_AL_fastRemove 28 = .ok (.iload_n 3, 1) := by decide +kernel
theorem d_AL_fastRemove_29 : decode b_AL_fastRemove 29 = .ok (.iload_n 2, 1) := by decide +kernel
theorem d_AL_fastRemove_30 : decode b_AL_fastRemove 30 = .ok (.isub, 1) := by decide +kernel
theorem d_AL_fastRemove_31 : decode b_AL_fastRemove 31 = .ok (.invokestatic 112, 3) := by decide +kernel
theorem d_AL_fastRemove_34 : decode b_AL_fastRemove 34 = .ok (.aload_n 1, 1) := by decide +kernel
theorem d_AL_fastRemove_35 : decode b_AL_fastRemove 35 = .ok (.aload_n 0, 1) := by decide +kernel
theorem d_AL_fastRemove_36 : decode b_AL_fastRemove 36 = .ok (.iload_n 3, 1) := by decide +kernel
theorem d_AL_fastRemove_37 : decode b_AL_fastRemove 37 = .ok (.dup_x1, 1) := by decide +kernel
theorem d_AL_fastRemove_38 : decode b_AL_fastRemove 38 = .ok (.putfield 48, 3) := by decide +kernel
theorem d_AL_fastRemove_41 : decode b_AL_fastRemove 41 = .ok (.aconst_null, 1) := by decide +kernel
theorem d_AL_fastRemove_42 : decode b_AL_fastRemove 42 = .ok (.aastore, 1) := by decide +kernel
theorem d_AL_fastRemove_43 : decode b_AL_fastRemove 43 = .ok (.return_, 1) := by decide +kernel
theorem d_AL_get_0 : decode b_AL_get 0 = .ok (.iload_n 1, 1) := by decide +kernel
theorem d_AL_get_1 : decode b_AL_get 1 = .ok (.aload_n 0, 1) := by decide +kernel
theorem d_AL_get_2 : decode b_AL_get 2 = .ok (.getfield 48, 3) := by decide +kernel
theorem d_AL_get_5 : decode b_AL_get 5 = .ok (.invokestatic 118, 3) := by decide +kernel
theorem d_AL_get_8 : decode b_AL_get 8 = .ok (.pop, 1) := by decide +kernel
theorem d_AL_get_9 : decode b_AL_get 9 = .ok (.aload_n 0, 1) := by decide +kernel
theorem d_AL_get_10 : decode b_AL_get 10 = .ok (.iload_n 1, 1) := by decide +kernel
theorem d_AL_get_11 : decode b_AL_get 11 = .ok (.invokevirtual 123, 3) := by decide +kernel
theorem d_AL_get_14 : decode b_AL_get 14 = .ok (.areturn, 1) := by decide +kernel
theorem d_AL_grow0_0 : decode b_AL_grow0 0 = .ok (.aload_n 0, 1) := by decide +kernel
theorem d_AL_grow0_1 : decode b_AL_grow0 1 = .ok (.aload_n 0, 1) := by decide +kernel
theorem d_AL_grow0_2 : decode b_AL_grow0 2 = .ok (.getfield 48, 3) := by decide +kernel
theorem d_AL_grow0_5 : decode b_AL_grow0 5 = .ok (.iconst 1, 1) := by decide +kernel
theorem d_AL_grow0_6 : decode b_AL_grow0 6 = .ok (.iadd, 1) := by decide +kernel
theorem d_AL_grow0_7 : decode b_AL_grow0 7 = .ok (.invokevirtual 69, 3) := by decide +kernel
theorem d_AL_grow0_10 : decode b_AL_grow0 10 = .ok (.areturn, 1) := by decide +kernel
theorem d_AL_grow1_0 : decode b_AL_grow1 0 = .ok (.aload_n 0, 1) := by decide +kernel
theorem d_AL_grow1_1 : decode b_AL_grow1 1 = .ok (.getfield 9, 3) := by decide +kernel
theorem d_AL_grow1_4 : decode b_AL_grow1 4 = .ok (.arraylength, 1) := by decide +kernel
theorem d_AL_grow1_5 : decode b_AL_grow1 5 = .ok (.istore_n 2, 1) := by decide +kernel
theorem d_AL_grow1_6 : decode b_AL_grow1 6 = .ok (.iload_n 2, 1) := by decide +kernel
theorem d_AL_grow1_7 : decode b_AL_grow1 7 = .ok (.ifCond .gt 13, 3) := by decide +kernel
theorem d_AL_grow1_10 : decode b_AL_grow1 10 = .ok (.aload_n 0, 1) := by decide +kernel
theorem d_AL_grow1_11 : decode b_AL_grow1 11 = .ok (.getfield 9, 3) := by decide +kernel
theorem d_AL_grow1_14 : decode b_AL_grow1 14 = .ok (.getstatic 39, 3) := by decide +kernel
theorem d_AL_grow1_17 : decode b_AL_grow1 17 = .ok (.if_acmp .eq 28, 3) := by decide +kernel
theorem d_AL_grow1_20 : decode b_AL_grow1 20 = .ok (.iload_n 2, 1) := by decide +kernel
theorem d_AL_grow1_21 : decode b_AL_grow1 21 = .ok (.iload_n 1, 1) := by decide +kernel
theorem d_AL_grow1_22 : decode b_AL_grow1 22 = .ok (.iload_n 2, 1) := by decide +kernel
theorem d_AL_grow1_23 : decode b_AL_grow1 23 = .ok (.isub, 1) := by decide +kernel
theorem d_AL_grow1_24 : decode b_AL_grow1 24 = .ok (.iload_n 2, 1) := by decide +kernel
theorem d_AL_grow1_25 : decode b_AL_grow1 25 = .ok (.iconst 1, 1) := by decide +kernel
theorem d_AL_grow1_26 : decode b_AL_grow1 26 = .ok (.ishr, 1) := by decide +kernel
theorem d_AL_grow1_27 : decode b_AL_grow1 27 = .ok (.invokestatic 73, 3) := by decide +kernel
theorem d_AL_grow1_30 : decode b_AL_grow1 30 = .ok (.istore_n 3, 1) := by decide +kernel
theorem d_AL_grow1_31 : decode b_AL_grow1 31 = .ok (.aload_n 0, 1) := by decide +kernel
theorem d_AL_grow1_32 : decode b_AL_grow1 32 = .ok (.aload_n 0, 1) := by decide +kernel
theorem d_AL_grow1_33 : decode b_AL_grow1 33 = .ok (.getfield 9, 3) := by decide +kernel
theorem d_AL_grow1_36 : decode b_AL_grow1 36 = .ok (.iload_n 3, 1) := by decide +kernel
theorem d_AL_grow1_37 : decode b_AL_grow1 37 = .ok (.invokestatic 66, 3) := by decide +kernel
theorem d_AL_grow1_40 : decode b_AL_grow1 40 = .ok (.dup_x1, 1) := by decide +kernel
theorem d_AL_grow1_41 : decode b_AL_grow1 41 = .ok (.putfield 9, 3) := by decide +kernel
theorem d_AL_grow1_44 : decode b_AL_grow1 44 = .ok (.areturn, 1) := by decide +kernel
theorem d_AL_grow1_45 : decode b_AL_grow1 45 = .ok (.aload_n 0, 1) := by decide +kernel
theorem d_AL_grow1_46 : decode b_AL_grow1 46 = .ok (.bipush 10, 2) := by decide +kernel
theorem d_AL_grow1_48 : decode b_AL_grow1 48 = .ok (.iload_n 1, 1) := by decide +kernel
theorem d_AL_grow1_49 : decode b_AL_grow1 49 = .ok (.invokestatic 79, 3) := by decide +kernel
theorem d_AL_grow1_52 : decode b_AL_grow1 52 = .ok (.anewarray 7, 3) := by decide +kernel
theorem d_AL_grow1_55 : decode b_AL_grow1 55 = .ok (.dup_x1, 1) := by decide +kernel
theorem d_AL_grow1_56 : decode b_AL_grow1 56 = .ok (.putfield 9, 3) := by decide +kernel
theorem d_AL_grow1_59 : decode b_AL_grow1 59 = .ok (.areturn, 1) := by decide +kernel
theorem d_AL_init_0 : decode b_AL_init 0 = .ok (.aload_n 0, 1) := by decide +kernel
theorem d_AL_init_1 : decode b_AL_init 1 = .ok (.invokespecial 1, 3) := by decide +kernel
theorem d_AL_init_4 : decode b_AL_init 4 = .ok (.aload_n 0, 1) := by decide +kernel
theorem d_AL_init_5 : decode b_AL_init 5 = .ok (.getstatic 39, 3) := by decide +kernel
theorem d_AL_init_8 : decode b_AL_init 8 = .ok (.putfield 9, 3) := by decide +kernel
theorem d_AL_init_11 : decode b_AL_init 11 = .ok (.return_, 1) := by decide +kernel
theorem d_AL_isEmpty_0 : decode b_AL_isEmpty 0 = .ok (.aload_n 0, 1) := by decide +kernel
theorem d_AL_isEmpty_1 : decode b_AL_isEmpty 1 = .ok (.getfield 48, 3) := by decide +kernel
theorem d_AL_isEmpty_4 : decode b_AL_isEmpty 4 = .ok (.ifCond .ne 7, 3) := by decide +kernel
theorem d_AL_isEmpty_7 : decode b_AL_isEmpty 7 = .ok (.iconst 1, 1) := by decide +kernel
theorem d_AL_isEmpty_8 : decode b_AL_isEmpty 8 = .ok (.goto 4, 3) := by decide +kernel
theorem d_AL_isEmpty_11 : decode b_AL_isEmpty 11 = .ok (.iconst 0, 1) := by decide +kernel
theorem d_AL_isEmpty_12 : decode b_AL_isEmpty 12 = .ok (.ireturn, 1) := by decide +kernel
theorem d_AL_remove_0 : decode b_AL_remove 0 = .ok (.iload_n 1, 1) := by decide +kernel
theorem d_AL_remove_1 : decode b_AL_remove 1 = .ok (.aload_n 0, 1) := by decide +kernel
theorem d_AL_remove_2 : decode b_AL_remove 2 = .ok (.getfield 48, 3) := by decide +kernel
theorem d_AL_remove_5 : decode b_AL_remove 5 = .ok (.invokestatic 118, 3) := by decide +kernel
theorem d_AL_remove_8 : decode b_AL_remove 8 = .ok (.pop, 1) := by decide +kernel
theorem d_AL_remove_9 : decode b_AL_remove 9 = .ok (.aload_n 0, 1) := by decide +kernel
theorem d_AL_remove_10 : decode b_AL_remove 10 = .ok (.getfield 9, 3) := by decide +kernel
theorem d_AL_remove_13 : decode b_AL_remove 13 = .ok (.astore_n 2, 1) := by decide +kernel
theorem d_AL_remove_14 : decode b_AL_remove 14 = .ok (.aload_n 2, 1) := by decide +kernel
theorem d_AL_remove_15 : decode b_AL_remove 15 = .ok (.iload_n 1, 1) := by decide +kernel
theorem d_AL_remove_16 : decode b_AL_remove 16 = .ok (.aaload, 1) := by decide +kernel
theorem d_AL_remove_17 : decode b_AL_remove 17 = .ok (.astore_n 3, 1) := by decide +kernel
theorem d_AL_remove_18 : decode b_AL_remove 18 = .ok (.aload_n 0, 1) := by decide +kernel
theorem d_AL_remove_19 : decode b_AL_remove 19 = .ok (.aload_n 2, 1) := by decide +kernel
theorem d_AL_remove_20 : decode b_AL_remove 20 = .ok (.iload_n 1, 1) := by decide +kernel
theorem d_AL_remove_21 : decode b_AL_remove 21 = .ok (.invokevirtual 144, 3) := by decide +kernel
theorem d_AL_remove_24 : decode b_AL_remove 24 = .ok (.aload_n 3, 1) := by decide +kernel
theorem d_AL_remove_25 : decode b_AL_remove 25 = .ok (.areturn, 1) := by decide +kernel
theorem d_AL_size_0 : decode b_AL_size 0 = .ok (.aload_n 0, 1) := by decide +kernel
theorem d_AL_size_1 : decode b_AL_size 1 = .ok (.getfield 48, 3) := by decide +kernel
theorem d_AL_size_4 : decode b_AL_size 4 = .ok (.ireturn, 1) := by decide +kernel
theorem d_AR_copyOf0_0 : decode b_AR_copyOf0 0 = .ok (.aload_n 0, 1) := by decide +kernel
theorem d_AR_copyOf0_1 : decode b_AR_copyOf0 1 = .ok (.iload_n 1, 1) := by decide +kernel
theorem d_AR_copyOf0_2 : decode b_AR_copyOf0 2 = .ok (.aload_n 0, 1) := by decide +kernel
theorem d_AR_copyOf0_3 : decode b_AR_copyOf0 3 = .ok (.invokevirtual 86, 3) := by decide +kernel
theorem d_AR_copyOf0_6 : decode b_AR_copyOf0 6 = .ok (.invokestatic 300, 3) := by decide +kernel
theorem d_AR_copyOf0_9 : decode b_AR_copyOf0 9 = .ok (.areturn, 1) := by decide +kernel
theorem d_AR_copyOf1_0 : decode b_AR_copyOf1 0 = .ok (.aload_n 2, 1) := by decide +kernel
theorem d_AR_copyOf1_1 : decode b_AR_copyOf1 1 = .ok (.ldc 110, 2) := by decide +kernel
theorem d_AR_copyOf1_3 : decode b_AR_copyOf1 3 = .ok (.if_acmp .ne 10, 3) := by decide +kernel
theorem d_AR_copyOf1_6 : decode b_AR_copyOf1 6 = .ok (.iload_n 1, 1) := by decide +kernel
theorem d_AR_copyOf1_7 : decode b_AR_copyOf1 7 = .ok (.anewarray 2, 3) := by decide +kernel
theorem d_AR_copyOf1_10 : decode b_AR_copyOf1 10 = .ok (.goto 14, 3) := by decide +kernel
theorem d_AR_copyOf1_13 : decode b_AR_copyOf1 13 = .ok (.aload_n 2, 1) := by decide +kernel
theorem d_AR_copyOf1_14 : decode b_AR_copyOf1 14 = .ok (.invokevirtual 90, 3) := by decide +kernel
theorem d_AR_copyOf1_17 : decode b_AR_copyOf1 17 = .ok (.iload_n 1, 1) := by decide +kernel
theorem d_AR_copyOf1_18 : decode b_AR_copyOf1 18 = .ok (.invokestatic 95, 3) := by decide +kernel
theorem d_AR_copyOf1_21 : decode b_AR_copyOf1 21 = .ok (.checkcast 110, 3) := by decide +kernel
theorem d_AR_copyOf1_24 : decode b_AR_copyOf1 24 = .ok (.astore_n 3, 1) := by decide +kernel
theorem d_AR_copyOf1_25 : decode b_AR_copyOf1 25 = .ok (.aload_n 0, 1) := by decide +kernel
theorem d_AR_copyOf1_26 : decode b_AR_copyOf1 26 = .ok (.iconst 0, 1) := by decide +kernel
theorem d_AR_copyOf1_27 : decode b_AR_copyOf1 27 = .ok (.aload_n 3, 1) := by decide +kernel
theorem d_AR_copyOf1_28 : decode b_AR_copyOf1 28 = .ok (.iconst 0, 1) := by decide +kernel
theorem d_AR_copyOf1_29 : decode b_AR_copyOf1 29 = .ok (.aload_n 0, 1) := by decide +kernel
theorem d_AR_copyOf1_30 : decode b_AR_copyOf1 30 = .ok (.arraylength, 1) := by decide +kernel
theorem d_AR_copyOf1_31 : decode b_AR_copyOf1 31 = .ok (.iload_n 1, 1) := by decide +kernel
theorem d_AR_copyOf1_32 : decode b_AR_copyOf1 32 = .ok (.invokestatic 304, 3) := by decide +kernel
theorem d_AR_copyOf1_35 : decode b_AR_copyOf1 35 = .ok (.invokestatic 150, 3) := by decide +kernel
theorem d_AR_copyOf1_38 : decode b_AR_copyOf1 38 = .ok (.aload_n 3, 1) := by decide +kernel
theorem d_AR_copyOf1_39 : decode b_AR_copyOf1 39 = .ok (.areturn, 1) := by decide +kernel
theorem d_AS_newLength_0 : decode b_AS_newLength 0 = .ok (.iload_n 0, 1) := by decide +kernel
theorem d_AS_newLength_1 : decode b_AS_newLength 1 = .ok (.iload_n 1, 1) := by decide +kernel
theorem d_AS_newLength_2 : decode b_AS_newLength 2 = .ok (.iload_n 2, 1) := by decide +kernel
theorem d_AS_newLength_3 : decode b_AS_newLength 3 = .ok (.invokestatic 194, 3) := by decide +kernel
theorem d_AS_newLength_6 : decode b_AS_newLength 6 = .ok (.iadd, 1) := by decide +kernel
theorem d_AS_newLength_7 : decode b_AS_newLength 7 = .ok (.istore_n 3, 1) := by decide +kernel
theorem d_AS_newLength_8 : decode b_AS_newLength 8 = .ok (.iconst 0, 1) := by decide +kernel
theorem d_AS_newLength_9 : decode b_AS_newLength 9 = .ok (.iload_n 3, 1) := by decide +kernel
theorem d_AS_newLength_10 : decode b_AS_newLength 10 = .ok (.if_icmp .ge 11, 3) := by decide +kernel
theorem d_AS_newLength_13 : decode b_AS_newLength 13 = .ok (.iload_n 3, 1) := by decide +kernel
theorem d_AS_newLength_14 : decode b_AS_newLength 14 = .ok (.ldc 200, 2) := by decide +kernel
theorem d_AS_newLength_16 : decode b_AS_newLength 16 = .ok (.if_icmp .gt 5, 3) := by decide +kernel
theorem d_AS_newLength_19 : decode b_AS_newLength 19 = .ok (.iload_n 3, 1) := by decide +kernel
theorem d_AS_newLength_20 : decode b_AS_newLength 20 = .ok (.ireturn, 1) := by decide +kernel
theorem d_AS_newLength_21 : decode b_AS_newLength 21 = .ok (.iload_n 0, 1) := by decide +kernel
theorem d_AS_newLength_22 : decode b_AS_newLength 22 = .ok (.iload_n 1, 1) := by decide +kernel
theorem d_AS_newLength_23 : decode b_AS_newLength 23 = .ok (.invokestatic 201, 3) := by decide +kernel
theorem d_AS_newLength_26 : decode b_AS_newLength 26 = .ok (.ireturn, 1) := by decide +kernel
theorem d_OB_checkIndex_0 : decode b_OB_checkIndex 0 = .ok (.iload_n 0, 1) := by decide +kernel
theorem d_OB_checkIndex_1 : decode b_OB_checkIndex 1 = .ok (.iload_n 1, 1) := by decide +kernel
theorem d_OB_checkIndex_2 : decode b_OB_checkIndex 2 = .ok (.aconst_null, 1) := by decide +kernel
theorem d_OB_checkIndex_3 : decode b_OB_checkIndex 3 = .ok (.invokestatic 105, 3) := by decide +kernel
theorem d_OB_checkIndex_6 : decode b_OB_checkIndex 6 = .ok (.ireturn, 1) := by decide +kernel
theorem d_PR_checkIndex_0 : decode b_PR_checkIndex 0 = .ok (.iload_n 0, 1) := by decide +kernel
theorem d_PR_checkIndex_1 : decode b_PR_checkIndex 1 = .ok (.ifCond .lt 8, 3) := by decide +kernel
theorem d_PR_checkIndex_4 : decode b_PR_checkIndex 4 = .ok (.iload_n 0, 1) := by decide +kernel
theorem d_PR_checkIndex_5 : decode b_PR_checkIndex 5 = .ok (.iload_n 1, 1) := by decide +kernel
theorem d_PR_checkIndex_6 : decode b_PR_checkIndex 6 = .ok (.if_icmp .lt 10, 3) := by decide +kernel
theorem d_PR_checkIndex_9 : decode b_PR_checkIndex 9 = .ok (.aload_n 2, 1) := by decide +kernel
theorem d_PR_checkIndex_10 : decode b_PR_checkIndex 10 = .ok (.iload_n 0, 1) := by decide +kernel
theorem d_PR_checkIndex_11 : decode b_PR_checkIndex 11 = .ok (.iload_n 1, 1) := by decide +kernel
theorem d_PR_checkIndex_12 : decode b_PR_checkIndex 12 = .ok (.invokestatic 95, 3) := by decide +kernel
theorem d_PR_checkIndex_15 : decode b_PR_checkIndex 15 = .ok (.athrow, 1) := by decide +kernel
theorem d_PR_checkIndex_16 : decode b_PR_checkIndex 16 = .ok (.iload_n 0, 1) := by decide +kernel
theorem d_PR_checkIndex_17 : decode b_PR_checkIndex 17 = .ok (.ireturn, 1) := by decide +kernel
end
section
theorem d_LW_buffer_0 : decode b_LW_buffer 0 = .ok (.aload_n 2, 1) := by decide +kernel
theorem d_LW_buffer_1 : decode b_LW_buffer 1 = .ok (.iconst 0, 1) := by decide +kernel
theorem d_LW_buffer_2 : decode b_LW_buffer 2 = .ok (.aload_n 0, 1) := by decide +kernel
theorem d_LW_buffer_3 : decode b_LW_buffer 3 = .ok (.iload_n 1, 1) := by decide +kernel
theorem d_LW_buffer_4 : decode b_LW_buffer 4 = .ok (.invokevirtual 39, 3) := by decide +kernel
theorem d_LW_buffer_7 : decode b_LW_buffer 7 = .ok (.i2l, 1) := by decide +kernel
theorem d_LW_buffer_8 : decode b_LW_buffer 8 = .ok (.lastore, 1) := by decide +kernel
theorem d_LW_buffer_9 : decode b_LW_buffer 9 = .ok (.goto 6, 3) := by decide +kernel
theorem d_LW_buffer_12 : decode b_LW_buffer 12 = .ok (.astore_n 3, 1) := by decide +kernel
theorem d_LW_buffer_13 : decode b_LW_buffer 13 = .ok (.iconst 1, 1) := by decide +kernel
theorem d_LW_buffer_14 : decode b_LW_buffer 14 = .ok (.ireturn, 1) := by decide +kernel
theorem d_LW_buffer_15 : decode b_LW_buffer 15 = .ok (.iconst 0, 1) := by decide +kernel
theorem d_LW_buffer_16 : decode b_LW_buffer 16 = .ok (.ireturn, 1) := by decide +kernel
theorem d_LW_law_0 : decode b_LW_law 0 = .ok (.new 8, 3) := by decide +kernel
theorem d_LW_law_3 : decode b_LW_law 3 = .ok (.dup, 1) := by decide +kernel
theorem d_LW_law_4 : decode b_LW_law 4 = .ok (.invokespecial 42, 3) := by decide +kernel
theorem d_LW_law_7 : decode b_LW_law 7 = .ok (.astore_n 1, 1) := by decide +kernel
theorem d_LW_law_8 : decode b_LW_law 8 = .ok (.new 43, 3) := by decide +kernel
theorem d_LW_law_11 : decode b_LW_law 11 = .ok (.dup, 1) := by decide +kernel
theorem d_LW_law_12 : decode b_LW_law 12 = .ok (.invokespecial 45, 3) := by decide +kernel
theorem d_LW_law_15 : decode b_LW_law 15 = .ok (.astore_n 2, 1) := by decide +kernel
theorem d_LW_law_16 : decode b_LW_law 16 = .ok (.iconst 1, 1) := by decide +kernel
theorem d_LW_law_17 : decode b_LW_law 17 = .ok (.newarray .long, 2) := by decide +kernel
theorem d_LW_law_19 : decode b_LW_law 19 = .ok (.astore_n 3, 1) := by decide +kernel
theorem d_LW_law_20 : decode b_LW_law 20 = .ok (.iconst 0, 1) := by decide +kernel
theorem d_LW_law_21 : decode b_LW_law 21 = .ok (.istore 4, 2) := by decide +kernel
theorem d_LW_law_23 : decode b_LW_law 23 = .ok (.iload 4, 2) := by decide +kernel
theorem d_LW_law_25 : decode b_LW_law 25 = .ok (.aload_n 0, 1) := by decide +kernel
theorem d_LW_law_26 : decode b_LW_law 26 = .ok (.arraylength, 1) := by decide +kernel
theorem d_LW_law_27 : decode b_LW_law 27 = .ok (.iconst 3, 1) := by decide +kernel
theorem d_LW_law_28 : decode b_LW_law 28 = .ok (.isub, 1) := by decide +kernel
theorem d_LW_law_29 : decode b_LW_law 29 = .ok (.if_icmp .gt 671, 3) := by decide +kernel
theorem d_LW_law_32 : decode b_LW_law 32 = .ok (.aload_n 0, 1) := by decide +kernel
theorem d_LW_law_33 : decode b_LW_law 33 = .ok (.iload 4, 2) := by decide +kernel
theorem d_LW_law_35 : decode b_LW_law 35 = .ok (.iaload, 1) := by decide +kernel
theorem d_LW_law_36 : decode b_LW_law 36 = .ok (.bipush 15, 2) := by decide +kernel
theorem d_LW_law_38 : decode b_LW_law 38 = .ok (.iand, 1) := by decide +kernel
theorem d_LW_law_39 : decode b_LW_law 39 = .ok (.tableswitch 655 0 13 #[69, 125, 193, 237, 293, 306, 362, 375, 431, 487, 543, 568, 593, 630], 69) := by decide +kernel
theorem d_LW_law_108 : decode b_LW_law 108 = .ok (.aload_n 1, 1) := by decide +kernel
theorem d_LW_law_109 : decode b_LW_law 109 = .ok (.aload_n 0, 1) := by decide +kernel
theorem d_LW_law_110 : decode b_LW_law 110 = .ok (.iload 4, 2) := by decide +kernel
theorem d_LW_law_112 : decode b_LW_law 112 = .ok (.iconst 1, 1) := by decide +kernel
theorem d_LW_law_113 : decode b_LW_law 113 = .ok (.iadd, 1) := by decide +kernel
theorem d_LW_law_114 : decode b_LW_law 114 = .ok (.iaload, 1) := by decide +kernel
theorem d_LW_law_115 : decode b_LW_law 115 = .ok (.aload_n 3, 1) := by decide +kernel
theorem d_LW_law_116 : decode b_LW_law 116 = .ok (.invokestatic 46, 3) := by decide +kernel
theorem d_LW_law_119 : decode b_LW_law 119 = .ok (.istore 5, 2) := by decide +kernel
theorem d_LW_law_121 : decode b_LW_law 121 = .ok (.aload_n 2, 1) := by decide +kernel
theorem d_LW_law_122 : decode b_LW_law 122 = .ok (.aload_n 0, 1) := by decide +kernel
theorem d_LW_law_123 : decode b_LW_law 123 = .ok (.iload 4, 2) := by decide +kernel
theorem d_LW_law_125 : decode b_LW_law 125 = .ok (.iconst 1, 1) := by decide +kernel
theorem d_LW_law_126 : decode b_LW_law 126 = .ok (.iadd, 1) := by decide +kernel
theorem d_LW_law_127 : decode b_LW_law 127 = .ok (.iaload, 1) := by decide +kernel
theorem d_LW_law_128 : decode b_LW_law 128 = .ok (.invokevirtual 51, 3) := by decide +kernel
theorem d_LW_law_131 : decode b_LW_law 131 = .ok (.istore 6, 2) := by decide +kernel
theorem d_LW_law_133 : decode b_LW_law 133 = .ok (.aload_n 2, 1) := by decide +kernel
theorem d_LW_law_134 : decode b_LW_law 134 = .ok (.invokevirtual 52, 3) := by decide +kernel
theorem d_LW_law_137 : decode b_LW_law 137 = .ok (.iload 5, 2) := by decide +kernel
theorem d_LW_law_139 : decode b_LW_law 139 = .ok (.if_icmp .eq 5, 3) := by decide +kernel
theorem d_LW_law_142 : decode b_LW_law 142 = .ok (.iconst 0, 1) := by decide +kernel
theorem d_LW_law_143 : decode b_LW_law 143 = .ok (.ireturn, 1) := by decide +kernel
theorem d_LW_law_144 : decode b_LW_law 144 = .ok (.iload 5, 2) := by decide +kernel
theorem d_LW_law_146 : decode b_LW_law 146 = .ok (.ifCond .ne 15, 3) := by decide +kernel
theorem d_LW_law_149 : decode b_LW_law 149 = .ok (.aload_n 3, 1) := by decide +kernel
theorem d_LW_law_150 : decode b_LW_law 150 = .ok (.iconst 0, 1) := by decide +kernel
theorem d_LW_law_151 : decode b_LW_law 151 = .ok (.laload, 1) := by decide +kernel
theorem d_LW_law_152 : decode b_LW_law 152 = .ok (.iload 6, 2) := by decide +kernel
theorem d_LW_law_154 : decode b_LW_law 154 = .ok (.i2l, 1) := by decide +kernel
theorem d_LW_law_155 : decode b_LW_law 155 = .ok (.lcmp, 1) := by decide +kernel
theorem d_LW_law_156 : decode b_LW_law 156 = .ok (.ifCond .eq 5, 3) := by decide +kernel
theorem d_LW_law_159 : decode b_LW_law 159 = .ok (.iconst 0, 1) := by decide +kernel
theorem d_LW_law_160 : decode b_LW_law 160 = .ok (.ireturn, 1) := by decide +kernel
theorem d_LW_law_161 : decode b_LW_law 161 = .ok (.goto 533, 3) := by decide +kernel
theorem d_LW_law_164 : decode b_LW_law 164 = .ok (.aload_n 1, 1) := by decide +kernel
theorem d_LW_law_165 : decode b_LW_law 165 = .ok (.aload_n 0, 1) := by decide +kernel
theorem d_LW_law_166 : decode b_LW_law 166 = .ok (.iload 4, 2) := by decide +kernel
theorem d_LW_law_168 : decode b_LW_law 168 = .ok (.iconst 1, 1) := by decide +kernel
theorem d_LW_law_169 : decode b_LW_law 169 = .ok (.iadd, 1) := by decide +kernel
theorem d_LW_law_170 : decode b_LW_law 170 = .ok (.iaload, 1) := by decide +kernel
theorem d_LW_law_171 : decode b_LW_law 171 = .ok (.aload_n 0, 1) := by decide +kernel
theorem d_LW_law_172 : decode b_LW_law 172 = .ok (.iload 4, 2) := by decide +kernel
theorem d_LW_law_174 : decode b_LW_law 174 = .ok (.iconst 2, 1) := by decide +kernel
theorem d_LW_law_175 : decode b_LW_law 175 = .ok (.iadd, 1) := by decide +kernel
theorem d_LW_law_176 : decode b_LW_law 176 = .ok (.iaload, 1) := by decide +kernel
theorem d_LW_law_177 : decode b_LW_law 177 = .ok (.aload_n 3, 1) := by decide +kernel
theorem d_LW_law_178 : decode b_LW_law 178 = .ok (.invokestatic 55, 3) := by decide +kernel
theorem d_LW_law_181 : decode b_LW_law 181 = .ok (.istore 5, 2) := by decide +kernel
theorem d_LW_law_183 : decode b_LW_law 183 = .ok (.aload_n 2, 1) := by decide +kernel
theorem d_LW_law_184 : decode b_LW_law 184 = .ok (.aload_n 0, 1) := by decide +kernel
theorem d_LW_law_185 : decode b_LW_law 185 = .ok (.iload 4, 2) := by decide +kernel
theorem d_LW_law_187 : decode b_LW_law 187 = .ok (.iconst 1, 1) := by decide +kernel
theorem d_LW_law_188 : decode b_LW_law 188 = .ok (.iadd, 1) := by decide +kernel
theorem d_LW_law_189 : decode b_LW_law 189 = .ok (.iaload, 1) := by decide +kernel
theorem d_LW_law_190 : decode b_LW_law 190 = .ok (.aload_n 0, 1) := by decide +kernel
theorem d_LW_law_191 : decode b_LW_law 191 = .ok (.iload 4, 2) := by decide +kernel
theorem d_LW_law_193 : decode b_LW_law 193 = .ok (.iconst 2, 1) := by decide +kernel
theorem d_LW_law_194 : decode b_LW_law 194 = .ok (.iadd, 1) := by decide +kernel
theorem d_LW_law_195 : decode b_LW_law 195 = .ok (.iaload, 1) := by decide +kernel
theorem d_LW_law_196 : decode b_LW_law 196 = .ok (.invokevirtual 58, 3) := by decide +kernel
theorem d_LW_law_199 : decode b_LW_law 199 = .ok (.istore 6, 2) := by decide +kernel
theorem d_LW_law_201 : decode b_LW_law 201 = .ok (.aload_n 2, 1) := by decide +kernel
theorem d_LW_law_202 : decode b_LW_law 202 = .ok (.invokevirtual 52, 3) := by decide +kernel
theorem d_LW_law_205 : decode b_LW_law 205 = .ok (.iload 5, 2) := by decide +kernel
theorem d_LW_law_207 : decode b_LW_law 207 = .ok (.if_icmp .eq 5, 3) := by decide +kernel
theorem d_LW_law_210 : decode b_LW_law 210 = .ok (.iconst 0, 1) := by decide +kernel
theorem d_LW_law_211 : decode b_LW_law 211 = .ok (.ireturn, 1) := by decide +kernel
theorem d_LW_law_212 : decode b_LW_law 212 = .ok (.iload 5, 2) := by decide +kernel
theorem d_LW_law_214 : decode b_LW_law 214 = .ok (.ifCond .ne 15, 3) := by decide +kernel
theorem d_LW_law_217 : decode b_LW_law 217 = .ok (.aload_n 3, 1) := by decide +kernel
theorem d_LW_law_218 : decode b_LW_law 218 = .ok (.iconst 0, 1) := by decide +kernel
theorem d_LW_law_219 : decode b_LW_law 219 = .ok (.laload, 1) := by decide +kernel
theorem d_LW_law_220 : decode b_LW_law 220 = .ok (.iload 6, 2) := by decide +kernel
theorem d_LW_law_222 : decode b_LW_law 222 = .ok (.i2l, 1) := by decide +kernel
theorem d_LW_law_223 : decode b_LW_law 223 = .ok (.lcmp, 1) := by decide +kernel
theorem d_LW_law_224 : decode b_LW_law 224 = .ok (.ifCond .eq 5, 3) := by decide +kernel
theorem d_LW_law_227 : decode b_LW_law 227 = .ok (.iconst 0, 1) := by decide +kernel
theorem d_LW_law_228 : decode b_LW_law 228 = .ok (.ireturn, 1) := by decide +kernel
theorem d_LW_law_229 : decode b_LW_law 229 = .ok (.goto 465, 3) := by decide +kernel
theorem d_LW_law_232 : decode b_LW_law 232 = .ok (.aload_n 1, 1) := by decide +kernel
theorem d_LW_law_233 : decode b_LW_law 233 = .ok (.aload_n 3, 1) := by decide +kernel
theorem d_LW_law_234 : decode b_LW_law 234 = .ok (.invokestatic 59, 3) := by decide +kernel
theorem d_LW_law_237 : decode b_LW_law 237 = .ok (.istore 5, 2) := by decide +kernel
theorem d_LW_law_239 : decode b_LW_law 239 = .ok (.aload_n 2, 1) := by decide +kernel
theorem d_LW_law_240 : decode b_LW_law 240 = .ok (.invokevirtual 62, 3) := by decide +kernel
theorem d_LW_law_243 : decode b_LW_law 243 = .ok (.istore 6, 2) := by decide +kernel
theorem d_LW_law_245 : decode b_LW_law 245 = .ok (.aload_n 2, 1) := by decide +kernel
theorem d_LW_law_246 : decode b_LW_law 246 = .ok (.invokevirtual 52, 3) := by decide +kernel
theorem d_LW_law_249 : decode b_LW_law 249 = .ok (.iload 5, 2) := by decide +kernel
theorem d_LW_law_251 : decode b_LW_law 251 = .ok (.if_icmp .eq 5, 3) := by decide +kernel
theorem d_LW_law_254 : decode b_LW_law 254 = .ok (.iconst 0, 1) := by decide +kernel
theorem d_LW_law_255 : decode b_LW_law 255 = .ok (.ireturn, 1) := by decide +kernel
theorem d_LW_law_256 : decode b_LW_law 256 = .ok (.iload 5, 2) := by decide +kernel
theorem d_LW_law_258 : decode b_LW_law 258 = .ok (.ifCond .ne 15, 3) := by decide +kernel
theorem d_LW_law_261 : decode b_LW_law 261 = .ok (.aload_n 3, 1) := by decide +kernel
theorem d_LW_law_262 : decode b_LW_law 262 = .ok (.iconst 0, 1) := by decide +kernel
theorem d_LW_law_263 : decode b_LW_law 263 = .ok (.laload, 1) := by decide +kernel
theorem d_LW_law_264 : decode b_LW_law 264 = .ok (.iload 6, 2) := by decide +kernel
theorem d_LW_law_266 : decode b_LW_law 266 = .ok (.i2l, 1) := by decide +kernel
theorem d_LW_law_267 : decode b_LW_law 267 = .ok (.lcmp, 1) := by decide +kernel
theorem d_LW_law_268 : decode b_LW_law 268 = .ok (.ifCond .eq 5, 3) := by decide +kernel
theorem d_LW_law_271 : decode b_LW_law 271 = .ok (.iconst 0, 1) := by decide +kernel
theorem d_LW_law_272 : decode b_LW_law 272 = .ok (.ireturn, 1) := by decide +kernel
theorem d_LW_law_273 : decode b_LW_law 273 = .ok (.goto 421, 3) := by decide +kernel
theorem d_LW_law_276 : decode b_LW_law 276 = .ok (.aload_n 1, 1) := by decide +kernel
theorem d_LW_law_277 : decode b_LW_law 277 = .ok (.aload_n 0, 1) := by decide +kernel
theorem d_LW_law_278 : decode b_LW_law 278 = .ok (.iload 4, 2) := by decide +kernel
theorem d_LW_law_280 : decode b_LW_law 280 = .ok (.iconst 1, 1) := by decide +kernel
theorem d_LW_law_281 : decode b_LW_law 281 = .ok (.iadd, 1) := by decide +kernel
theorem d_LW_law_282 : decode b_LW_law 282 = .ok (.iaload, 1) := by decide +kernel
theorem d_LW_law_283 : decode b_LW_law 283 = .ok (.aload_n 3, 1) := by decide +kernel
theorem d_LW_law_284 : decode b_LW_law 284 = .ok (.invokestatic 63, 3) := by decide +kernel
theorem d_LW_law_287 : decode b_LW_law 287 = .ok (.istore 5, 2) := by decide +kernel
theorem d_LW_law_289 : decode b_LW_law 289 = .ok (.aload_n 2, 1) := by decide +kernel
theorem d_LW_law_290 : decode b_LW_law 290 = .ok (.aload_n 0, 1) := by decide +kernel
theorem d_LW_law_291 : decode b_LW_law 291 = .ok (.iload 4, 2) := by decide +kernel
theorem d_LW_law_293 : decode b_LW_law 293 = .ok (.iconst 1, 1) := by decide +kernel
theorem d_LW_law_294 : decode b_LW_law 294 = .ok (.iadd, 1) := by decide +kernel
theorem d_LW_law_295 : decode b_LW_law 295 = .ok (.iaload, 1) := by decide +kernel
theorem d_LW_law_296 : decode b_LW_law 296 = .ok (.invokevirtual 65, 3) := by decide +kernel
theorem d_LW_law_299 : decode b_LW_law 299 = .ok (.istore 6, 2) := by decide +kernel
theorem d_LW_law_301 : decode b_LW_law 301 = .ok (.aload_n 2, 1) := by decide +kernel
theorem d_LW_law_302 : decode b_LW_law 302 = .ok (.invokevirtual 52, 3) := by decide +kernel
theorem d_LW_law_305 : decode b_LW_law 305 = .ok (.iload 5, 2) := by decide +kernel
theorem d_LW_law_307 : decode b_LW_law 307 = .ok (.if_icmp .eq 5, 3) := by decide +kernel
theorem d_LW_law_310 : decode b_LW_law 310 = .ok (.iconst 0, 1) := by decide +kernel
theorem d_LW_law_311 : decode b_LW_law 311 = .ok (.ireturn, 1) := by decide +kernel
theorem d_LW_law_312 : decode b_LW_law 312 = .ok (.iload 5, 2) := by decide +kernel
theorem d_LW_law_314 : decode b_LW_law 314 = .ok (.ifCond .ne 15, 3) := by decide +kernel
theorem d_LW_law_317 : decode b_LW_law 317 = .ok (.aload_n 3, 1) := by decide +kernel
theorem d_LW_law_318 : decode b_LW_law 318 = .ok (.iconst 0, 1) := by decide +kernel
theorem d_LW_law_319 : decode b_LW_law 319 = .ok (.laload, 1) := by decide +kernel
theorem d_LW_law_320 : decode b_LW_law 320 = .ok (.iload 6, 2) := by decide +kernel
theorem d_LW_law_322 : decode b_LW_law 322 = .ok (.i2l, 1) := by decide +kernel
theorem d_LW_law_323 : decode b_LW_law 323 = .ok (.lcmp, 1) := by decide +kernel
theorem d_LW_law_324 : decode b_LW_law 324 = .ok (.ifCond .eq 5, 3) := by decide +kernel
theorem d_LW_law_327 : decode b_LW_law 327 = .ok (.iconst 0, 1) := by decide +kernel
theorem d_LW_law_328 : decode b_LW_law 328 = .ok (.ireturn, 1) := by decide +kernel
theorem d_LW_law_329 : decode b_LW_law 329 = .ok (.goto 365, 3) := by decide +kernel
theorem d_LW_law_332 : decode b_LW_law 332 = .ok (.aload_n 1, 1) := by decide +kernel
theorem d_LW_law_333 : decode b_LW_law 333 = .ok (.invokevirtual 66, 3) := by decide +kernel
theorem d_LW_law_336 : decode b_LW_law 336 = .ok (.aload_n 2, 1) := by decide +kernel
theorem d_LW_law_337 : decode b_LW_law 337 = .ok (.invokevirtual 69, 3) := by decide +kernel
theorem d_LW_law_340 : decode b_LW_law 340 = .ok (.if_icmp .eq 354, 3) := by decide +kernel
theorem d_LW_law_343 : decode b_LW_law 343 = .ok (.iconst 0, 1) := by decide +kernel
theorem d_LW_law_344 : decode b_LW_law 344 = .ok (.ireturn, 1) := by decide +kernel
theorem d_LW_law_345 : decode b_LW_law 345 = .ok (.aload_n 1, 1) := by decide +kernel
theorem d_LW_law_346 : decode b_LW_law 346 = .ok (.aload_n 0, 1) := by decide +kernel
theorem d_LW_law_347 : decode b_LW_law 347 = .ok (.iload 4, 2) := by decide +kernel
theorem d_LW_law_349 : decode b_LW_law 349 = .ok (.iconst 1, 1) := by decide +kernel
theorem d_LW_law_350 : decode b_LW_law 350 = .ok (.iadd, 1) := by decide +kernel
theorem d_LW_law_351 : decode b_LW_law 351 = .ok (.iaload, 1) := by decide +kernel
theorem d_LW_law_352 : decode b_LW_law 352 = .ok (.aload_n 3, 1) := by decide +kernel
theorem d_LW_law_353 : decode b_LW_law 353 = .ok (.invokestatic 70, 3) := by decide +kernel
theorem d_LW_law_356 : decode b_LW_law 356 = .ok (.istore 5, 2) := by decide +kernel
theorem d_LW_law_358 : decode b_LW_law 358 = .ok (.aload_n 2, 1) := by decide +kernel
theorem d_LW_law_359 : decode b_LW_law 359 = .ok (.aload_n 0, 1) := by decide +kernel
theorem d_LW_law_360 : decode b_LW_law 360 = .ok (.iload 4, 2) := by decide +kernel
theorem d_LW_law_362 : decode b_LW_law 362 = .ok (.iconst 1, 1) := by decide +kernel
theorem d_LW_law_363 : decode b_LW_law 363 = .ok (.iadd, 1) := by decide +kernel
theorem d_LW_law_364 : decode b_LW_law 364 = .ok (.iaload, 1) := by decide +kernel
theorem d_LW_law_365 : decode b_LW_law 365 = .ok (.invokevirtual 72, 3) := by decide +kernel
theorem d_LW_law_368 : decode b_LW_law 368 = .ok (.istore 6, 2) := by decide +kernel
theorem d_LW_law_370 : decode b_LW_law 370 = .ok (.aload_n 2, 1) := by decide +kernel
theorem d_LW_law_371 : decode b_LW_law 371 = .ok (.invokevirtual 52, 3) := by decide +kernel
theorem d_LW_law_374 : decode b_LW_law 374 = .ok (.iload 5, 2) := by decide +kernel
theorem d_LW_law_376 : decode b_LW_law 376 = .ok (.if_icmp .eq 5, 3) := by decide +kernel
theorem d_LW_law_379 : decode b_LW_law 379 = .ok (.iconst 0, 1) := by decide +kernel
theorem d_LW_law_380 : decode b_LW_law 380 = .ok (.ireturn, 1) := by decide +kernel
theorem d_LW_law_381 : decode b_LW_law 381 = .ok (.iload 5, 2) := by decide +kernel
theorem d_LW_law_383 : decode b_LW_law 383 = .ok (.ifCond .ne 15, 3) := by decide +kernel
theorem d_LW_law_386 : decode b_LW_law 386 = .ok (.aload_n 3, 1) := by decide +kernel
theorem d_LW_law_387 : decode b_LW_law 387 = .ok (.iconst 0, 1) := by decide +kernel
theorem d_LW_law_388 : decode b_LW_law 388 = .ok (.laload, 1) := by decide +kernel
theorem d_LW_law_389 : decode b_LW_law 389 = .ok (.iload 6, 2) := by decide +kernel
theorem d_LW_law_391 : decode b_LW_law 391 = .ok (.i2l, 1) := by decide +kernel
theorem d_LW_law_392 : decode b_LW_law 392 = .ok (.lcmp, 1) := by decide +kernel
theorem d_LW_law_393 : decode b_LW_law 393 = .ok (.ifCond .eq 5, 3) := by decide +kernel
theorem d_LW_law_396 : decode b_LW_law 396 = .ok (.iconst 0, 1) := by decide +kernel
theorem d_LW_law_397 : decode b_LW_law 397 = .ok (.ireturn, 1) := by decide +kernel
theorem d_LW_law_398 : decode b_LW_law 398 = .ok (.goto 296, 3) := by decide +kernel
theorem d_LW_law_401 : decode b_LW_law 401 = .ok (.aload_n 1, 1) := by decide +kernel
theorem d_LW_law_402 : decode b_LW_law 402 = .ok (.invokevirtual 73, 3) := by decide +kernel
theorem d_LW_law_405 : decode b_LW_law 405 = .ok (.aload_n 2, 1) := by decide +kernel
theorem d_LW_law_406 : decode b_LW_law 406 = .ok (.invokevirtual 76, 3) := by decide +kernel
theorem d_LW_law_409 : decode b_LW_law 409 = .ok (.if_icmp .eq 285, 3) := by decide +kernel
theorem d_LW_law_412 : decode b_LW_law 412 = .ok (.iconst 0, 1) := by decide +kernel
theorem d_LW_law_413 : decode b_LW_law 413 = .ok (.ireturn, 1) := by decide +kernel
theorem d_LW_law_414 : decode b_LW_law 414 = .ok (.aload_n 1, 1) := by decide +kernel
theorem d_LW_law_415 : decode b_LW_law 415 = .ok (.aload_n 0, 1) := by decide +kernel
theorem d_LW_law_416 : decode b_LW_law 416 = .ok (.iload 4, 2) := by decide +kernel
theorem d_LW_law_418 : decode b_LW_law 418 = .ok (.iconst 1, 1) := by decide +kernel
theorem d_LW_law_419 : decode b_LW_law 419 = .ok (.iadd, 1) := by decide +kernel
theorem d_LW_law_420 : decode b_LW_law 420 = .ok (.iaload, 1) := by decide +kernel
theorem d_LW_law_421 : decode b_LW_law 421 = .ok (.aload_n 3, 1) := by decide +kernel
theorem d_LW_law_422 : decode b_LW_law 422 = .ok (.invokestatic 77, 3) := by decide +kernel
theorem d_LW_law_425 : decode b_LW_law 425 = .ok (.istore 5, 2) := by decide +kernel
theorem d_LW_law_427 : decode b_LW_law 427 = .ok (.aload_n 2, 1) := by decide +kernel
theorem d_LW_law_428 : decode b_LW_law 428 = .ok (.aload_n 0, 1) := by decide +kernel
theorem d_LW_law_429 : decode b_LW_law 429 = .ok (.iload 4, 2) := by decide +kernel
theorem d_LW_law_431 : decode b_LW_law 431 = .ok (.iconst 1, 1) := by decide +kernel
theorem d_LW_law_432 : decode b_LW_law 432 = .ok (.iadd, 1) := by decide +kernel
theorem d_LW_law_433 : decode b_LW_law 433 = .ok (.iaload, 1) := by decide +kernel
theorem d_LW_law_434 : decode b_LW_law 434 = .ok (.invokevirtual 79, 3) := by decide +kernel
theorem d_LW_law_437 : decode b_LW_law 437 = .ok (.istore 6, 2) := by decide +kernel
theorem d_LW_law_439 : decode b_LW_law 439 = .ok (.aload_n 2, 1) := by decide +kernel
theorem d_LW_law_440 : decode b_LW_law 440 = .ok (.invokevirtual 52, 3) := by decide +kernel
theorem d_LW_law_443 : decode b_LW_law 443 = .ok (.iload 5, 2) := by decide +kernel
theorem d_LW_law_445 : decode b_LW_law 445 = .ok (.if_icmp .eq 5, 3) := by decide +kernel
theorem d_LW_law_448 : decode b_LW_law 448 = .ok (.iconst 0, 1) := by decide +kernel
theorem d_LW_law_449 : decode b_LW_law 449 = .ok (.ireturn, 1) := by decide +kernel
theorem d_LW_law_450 : decode b_LW_law 450 = .ok (.iload 5, 2) := by decide +kernel
theorem d_LW_law_452 : decode b_LW_law 452 = .ok (.ifCond .ne 15, 3) := by decide +kernel
theorem d_LW_law_455 : decode b_LW_law 455 = .ok (.aload_n 3, 1) := by decide +kernel
theorem d_LW_law_456 : decode b_LW_law 456 = .ok (.iconst 0, 1) := by decide +kernel
theorem d_LW_law_457 : decode b_LW_law 457 = .ok (.laload, 1) := by decide +kernel
theorem d_LW_law_458 : decode b_LW_law 458 = .ok (.iload 6, 2) := by decide +kernel
theorem d_LW_law_460 : decode b_LW_law 460 = .ok (.i2l, 1) := by decide +kernel
theorem d_LW_law_461 : decode b_LW_law 461 = .ok (.lcmp, 1) := by decide +kernel
theorem d_LW_law_462 : decode b_LW_law 462 = .ok (.ifCond .eq 5, 3) := by decide +kernel
theorem d_LW_law_465 : decode b_LW_law 465 = .ok (.iconst 0, 1) := by decide +kernel
theorem d_LW_law_466 : decode b_LW_law 466 = .ok (.ireturn, 1) := by decide +kernel
theorem d_LW_law_467 : decode b_LW_law 467 = .ok (.goto 227, 3) := by decide +kernel
theorem d_LW_law_470 : decode b_LW_law 470 = .ok (.aload_n 1, 1) := by decide +kernel
theorem d_LW_law_471 : decode b_LW_law 471 = .ok (.aload_n 0, 1) := by decide +kernel
theorem d_LW_law_472 : decode b_LW_law 472 = .ok (.iload 4, 2) := by decide +kernel
theorem d_LW_law_474 : decode b_LW_law 474 = .ok (.iconst 1, 1) := by decide +kernel
theorem d_LW_law_475 : decode b_LW_law 475 = .ok (.iadd, 1) := by decide +kernel
theorem d_LW_law_476 : decode b_LW_law 476 = .ok (.iaload, 1) := by decide +kernel
theorem d_LW_law_477 : decode b_LW_law 477 = .ok (.aload_n 3, 1) := by decide +kernel
theorem d_LW_law_478 : decode b_LW_law 478 = .ok (.invokestatic 80, 3) := by decide +kernel
theorem d_LW_law_481 : decode b_LW_law 481 = .ok (.istore 5, 2) := by decide +kernel
theorem d_LW_law_483 : decode b_LW_law 483 = .ok (.aload_n 2, 1) := by decide +kernel
theorem d_LW_law_484 : decode b_LW_law 484 = .ok (.aload_n 0, 1) := by decide +kernel
theorem d_LW_law_485 : decode b_LW_law 485 = .ok (.iload 4, 2) := by decide +kernel
theorem d_LW_law_487 : decode b_LW_law 487 = .ok (.iconst 1, 1) := by decide +kernel
theorem d_LW_law_488 : decode b_LW_law 488 = .ok (.iadd, 1) := by decide +kernel
theorem d_LW_law_489 : decode b_LW_law 489 = .ok (.iaload, 1) := by decide +kernel
theorem d_LW_law_490 : decode b_LW_law 490 = .ok (.invokevirtual 82, 3) := by decide +kernel
theorem d_LW_law_493 : decode b_LW_law 493 = .ok (.istore 6, 2) := by decide +kernel
theorem d_LW_law_495 : decode b_LW_law 495 = .ok (.aload_n 2, 1) := by decide +kernel
theorem d_LW_law_496 : decode b_LW_law 496 = .ok (.invokevirtual 52, 3) := by decide +kernel
theorem d_LW_law_499 : decode b_LW_law 499 = .ok (.iload 5, 2) := by decide +kernel
theorem d_LW_law_501 : decode b_LW_law 501 = .ok (.if_icmp .eq 5, 3) := by decide +kernel
theorem d_LW_law_504 : decode b_LW_law 504 = .ok (.iconst 0, 1) := by decide +kernel
theorem d_LW_law_505 : decode b_LW_law 505 = .ok (.ireturn, 1) := by decide +kernel
theorem d_LW_law_506 : decode b_LW_law 506 = .ok (.iload 5, 2) := by decide +kernel
theorem d_LW_law_508 : decode b_LW_law 508 = .ok (.ifCond .ne 15, 3) := by decide +kernel
theorem d_LW_law_511 : decode b_LW_law 511 = .ok (.aload_n 3, 1) := by decide +kernel
theorem d_LW_law_512 : decode b_LW_law 512 = .ok (.iconst 0, 1) := by decide +kernel
theorem d_LW_law_513 : decode b_LW_law 513 = .ok (.laload, 1) := by decide +kernel
theorem d_LW_law_514 : decode b_LW_law 514 = .ok (.iload 6, 2) := by decide +kernel
theorem d_LW_law_516 : decode b_LW_law 516 = .ok (.i2l, 1) := by decide +kernel
theorem d_LW_law_517 : decode b_LW_law 517 = .ok (.lcmp, 1) := by decide +kernel
theorem d_LW_law_518 : decode b_LW_law 518 = .ok (.ifCond .eq 5, 3) := by decide +kernel
theorem d_LW_law_521 : decode b_LW_law 521 = .ok (.iconst 0, 1) := by decide +kernel
theorem d_LW_law_522 : decode b_LW_law 522 = .ok (.ireturn, 1) := by decide +kernel
theorem d_LW_law_523 : decode b_LW_law 523 = .ok (.goto 171, 3) := by decide +kernel
theorem d_LW_law_526 : decode b_LW_law 526 = .ok (.aload_n 1, 1) := by decide +kernel
theorem d_LW_law_527 : decode b_LW_law 527 = .ok (.aload_n 0, 1) := by decide +kernel
theorem d_LW_law_528 : decode b_LW_law 528 = .ok (.iload 4, 2) := by decide +kernel
theorem d_LW_law_530 : decode b_LW_law 530 = .ok (.iconst 1, 1) := by decide +kernel
theorem d_LW_law_531 : decode b_LW_law 531 = .ok (.iadd, 1) := by decide +kernel
theorem d_LW_law_532 : decode b_LW_law 532 = .ok (.iaload, 1) := by decide +kernel
theorem d_LW_law_533 : decode b_LW_law 533 = .ok (.aload_n 3, 1) := by decide +kernel
theorem d_LW_law_534 : decode b_LW_law 534 = .ok (.invokestatic 83, 3) := by decide +kernel
theorem d_LW_law_537 : decode b_LW_law 537 = .ok (.istore 5, 2) := by decide +kernel
theorem d_LW_law_539 : decode b_LW_law 539 = .ok (.aload_n 2, 1) := by decide +kernel
theorem d_LW_law_540 : decode b_LW_law 540 = .ok (.aload_n 0, 1) := by decide +kernel
theorem d_LW_law_541 : decode b_LW_law 541 = .ok (.iload 4, 2) := by decide +kernel
theorem d_LW_law_543 : decode b_LW_law 543 = .ok (.iconst 1, 1) := by decide +kernel
theorem d_LW_law_544 : decode b_LW_law 544 = .ok (.iadd, 1) := by decide +kernel
theorem d_LW_law_545 : decode b_LW_law 545 = .ok (.iaload, 1) := by decide +kernel
theorem d_LW_law_546 : decode b_LW_law 546 = .ok (.invokevirtual 85, 3) := by decide +kernel
theorem d_LW_law_549 : decode b_LW_law 549 = .ok (.istore 6, 2) := by decide +kernel
theorem d_LW_law_551 : decode b_LW_law 551 = .ok (.aload_n 2, 1) := by decide +kernel
theorem d_LW_law_552 : decode b_LW_law 552 = .ok (.invokevirtual 52, 3) := by decide +kernel
theorem d_LW_law_555 : decode b_LW_law 555 = .ok (.iload 5, 2) := by decide +kernel
theorem d_LW_law_557 : decode b_LW_law 557 = .ok (.if_icmp .eq 5, 3) := by decide +kernel
theorem d_LW_law_560 : decode b_LW_law 560 = .ok (.iconst 0, 1) := by decide +kernel
theorem d_LW_law_561 : decode b_LW_law 561 = .ok (.ireturn, 1) := by decide +kernel
theorem d_LW_law_562 : decode b_LW_law 562 = .ok (.iload 5, 2) := by decide +kernel
theorem d_LW_law_564 : decode b_LW_law 564 = .ok (.ifCond .ne 15, 3) := by decide +kernel
theorem d_LW_law_567 : decode b_LW_law 567 = .ok (.aload_n 3, 1) := by decide +kernel
theorem d_LW_law_568 : decode b_LW_law 568 = .ok (.iconst 0, 1) := by decide +kernel
theorem d_LW_law_569 : decode b_LW_law 569 = .ok (.laload, 1) := by decide +kernel
theorem d_LW_law_570 : decode b_LW_law 570 = .ok (.iload 6, 2) := by decide +kernel
theorem d_LW_law_572 : decode b_LW_law 572 = .ok (.i2l, 1) := by decide +kernel
theorem d_LW_law_573 : decode b_LW_law 573 = .ok (.lcmp, 1) := by decide +kernel
theorem d_LW_law_574 : decode b_LW_law 574 = .ok (.ifCond .eq 5, 3) := by decide +kernel
theorem d_LW_law_577 : decode b_LW_law 577 = .ok (.iconst 0, 1) := by decide +kernel
theorem d_LW_law_578 : decode b_LW_law 578 = .ok (.ireturn, 1) := by decide +kernel
theorem d_LW_law_579 : decode b_LW_law 579 = .ok (.goto 115, 3) := by decide +kernel
theorem d_LW_law_582 : decode b_LW_law 582 = .ok (.aload_n 1, 1) := by decide +kernel
theorem d_LW_law_583 : decode b_LW_law 583 = .ok (.aload_n 0, 1) := by decide +kernel
theorem d_LW_law_584 : decode b_LW_law 584 = .ok (.iload 4, 2) := by decide +kernel
theorem d_LW_law_586 : decode b_LW_law 586 = .ok (.iconst 1, 1) := by decide +kernel
theorem d_LW_law_587 : decode b_LW_law 587 = .ok (.iadd, 1) := by decide +kernel
theorem d_LW_law_588 : decode b_LW_law 588 = .ok (.iaload, 1) := by decide +kernel
theorem d_LW_law_589 : decode b_LW_law 589 = .ok (.invokevirtual 86, 3) := by decide +kernel
theorem d_LW_law_592 : decode b_LW_law 592 = .ok (.aload_n 2, 1) := by decide +kernel
theorem d_LW_law_593 : decode b_LW_law 593 = .ok (.aload_n 0, 1) := by decide +kernel
theorem d_LW_law_594 : decode b_LW_law 594 = .ok (.iload 4, 2) := by decide +kernel
theorem d_LW_law_596 : decode b_LW_law 596 = .ok (.iconst 1, 1) := by decide +kernel
theorem d_LW_law_597 : decode b_LW_law 597 = .ok (.iadd, 1) := by decide +kernel
theorem d_LW_law_598 : decode b_LW_law 598 = .ok (.iaload, 1) := by decide +kernel
theorem d_LW_law_599 : decode b_LW_law 599 = .ok (.invokevirtual 89, 3) := by decide +kernel
theorem d_LW_law_602 : decode b_LW_law 602 = .ok (.if_icmp .eq 92, 3) := by decide +kernel
theorem d_LW_law_605 : decode b_LW_law 605 = .ok (.iconst 0, 1) := by decide +kernel
theorem d_LW_law_606 : decode b_LW_law 606 = .ok (.ireturn, 1) := by decide +kernel
theorem d_LW_law_607 : decode b_LW_law 607 = .ok (.aload_n 1, 1) := by decide +kernel
theorem d_LW_law_608 : decode b_LW_law 608 = .ok (.aload_n 0, 1) := by decide +kernel
theorem d_LW_law_609 : decode b_LW_law 609 = .ok (.iload 4, 2) := by decide +kernel
theorem d_LW_law_611 : decode b_LW_law 611 = .ok (.iconst 1, 1) := by decide +kernel
theorem d_LW_law_612 : decode b_LW_law 612 = .ok (.iadd, 1) := by decide +kernel
theorem d_LW_law_613 : decode b_LW_law 613 = .ok (.iaload, 1) := by decide +kernel
theorem d_LW_law_614 : decode b_LW_law 614 = .ok (.invokevirtual 90, 3) := by decide +kernel
theorem d_LW_law_617 : decode b_LW_law 617 = .ok (.aload_n 2, 1) := by decide +kernel
theorem d_LW_law_618 : decode b_LW_law 618 = .ok (.aload_n 0, 1) := by decide +kernel
theorem d_LW_law_619 : decode b_LW_law 619 = .ok (.iload 4, 2) := by decide +kernel
theorem d_LW_law_621 : decode b_LW_law 621 = .ok (.iconst 1, 1) := by decide +kernel
theorem d_LW_law_622 : decode b_LW_law 622 = .ok (.iadd, 1) := by decide +kernel
theorem d_LW_law_623 : decode b_LW_law 623 = .ok (.iaload, 1) := by decide +kernel
theorem d_LW_law_624 : decode b_LW_law 624 = .ok (.invokevirtual 93, 3) := by decide +kernel
theorem d_LW_law_627 : decode b_LW_law 627 = .ok (.if_icmp .eq 67, 3) := by decide +kernel
theorem d_LW_law_630 : decode b_LW_law 630 = .ok (.iconst 0, 1) := by decide +kernel
theorem d_LW_law_631 : decode b_LW_law 631 = .ok (.ireturn, 1) := by decide +kernel
theorem d_LW_law_632 : decode b_LW_law 632 = .ok (.aload_n 1, 1) := by decide +kernel
theorem d_LW_law_633 : decode b_LW_law 633 = .ok (.aload_n 0, 1) := by decide +kernel
theorem d_LW_law_634 : decode b_LW_law 634 = .ok (.iload 4, 2) := by decide +kernel
theorem d_LW_law_636 : decode b_LW_law 636 = .ok (.iconst 1, 1) := by decide +kernel
theorem d_LW_law_637 : decode b_LW_law 637 = .ok (.iadd, 1) := by decide +kernel
theorem d_LW_law_638 : decode b_LW_law 638 = .ok (.iaload, 1) := by decide +kernel
theorem d_LW_law_639 : decode b_LW_law 639 = .ok (.aload_n 0, 1) := by decide +kernel
theorem d_LW_law_640 : decode b_LW_law 640 = .ok (.iload 4, 2) := by decide +kernel
theorem d_LW_law_642 : decode b_LW_law 642 = .ok (.iconst 2, 1) := by decide +kernel
theorem d_LW_law_643 : decode b_LW_law 643 = .ok (.iadd, 1) := by decide +kernel
theorem d_LW_law_644 : decode b_LW_law 644 = .ok (.iaload, 1) := by decide +kernel
theorem d_LW_law_645 : decode b_LW_law 645 = .ok (.invokevirtual 94, 3) := by decide +kernel
theorem d_LW_law_648 : decode b_LW_law 648 = .ok (.aload_n 2, 1) := by decide +kernel
theorem d_LW_law_649 : decode b_LW_law 649 = .ok (.aload_n 0, 1) := by decide +kernel
theorem d_LW_law_650 : decode b_LW_law 650 = .ok (.iload 4, 2) := by decide +kernel
theorem d_LW_law_652 : decode b_LW_law 652 = .ok (.iconst 1, 1) := by decide +kernel
theorem d_LW_law_653 : decode b_LW_law 653 = .ok (.iadd, 1) := by decide +kernel
theorem d_LW_law_654 : decode b_LW_law 654 = .ok (.iaload, 1) := by decide +kernel
theorem d_LW_law_655 : decode b_LW_law 655 = .ok (.aload_n 0, 1) := by decide +kernel
theorem d_LW_law_656 : decode b_LW_law 656 = .ok (.iload 4, 2) := by decide +kernel
theorem d_LW_law_658 : decode b_LW_law 658 = .ok (.iconst 2, 1) := by decide +kernel
theorem d_LW_law_659 : decode b_LW_law 659 = .ok (.iadd, 1) := by decide +kernel
theorem d_LW_law_660 : decode b_LW_law 660 = .ok (.iaload, 1) := by decide +kernel
theorem d_LW_law_661 : decode b_LW_law 661 = .ok (.invokevirtual 97, 3) := by decide +kernel
theorem d_LW_law_664 : decode b_LW_law 664 = .ok (.if_icmp .eq 30, 3) := by decide +kernel
theorem d_LW_law_667 : decode b_LW_law 667 = .ok (.iconst 0, 1) := by decide +kernel
theorem d_LW_law_668 : decode b_LW_law 668 = .ok (.ireturn, 1) := by decide +kernel
theorem d_LW_law_669 : decode b_LW_law 669 = .ok (.aload_n 1, 1) := by decide +kernel
theorem d_LW_law_670 : decode b_LW_law 670 = .ok (.aload_n 0, 1) := by decide +kernel
theorem d_LW_law_671 : decode b_LW_law 671 = .ok (.iload 4, 2) := by decide +kernel
theorem d_LW_law_673 : decode b_LW_law 673 = .ok (.iconst 1, 1) := by decide +kernel
theorem d_LW_law_674 : decode b_LW_law 674 = .ok (.iadd, 1) := by decide +kernel
theorem d_LW_law_675 : decode b_LW_law 675 = .ok (.iaload, 1) := by decide +kernel
theorem d_LW_law_676 : decode b_LW_law 676 = .ok (.invokevirtual 98, 3) := by decide +kernel
theorem d_LW_law_679 : decode b_LW_law 679 = .ok (.aload_n 2, 1) := by decide +kernel
theorem d_LW_law_680 : decode b_LW_law 680 = .ok (.aload_n 0, 1) := by decide +kernel
theorem d_LW_law_681 : decode b_LW_law 681 = .ok (.iload 4, 2) := by decide +kernel
theorem d_LW_law_683 : decode b_LW_law 683 = .ok (.iconst 1, 1) := by decide +kernel
theorem d_LW_law_684 : decode b_LW_law 684 = .ok (.iadd, 1) := by decide +kernel
theorem d_LW_law_685 : decode b_LW_law 685 = .ok (.iaload, 1) := by decide +kernel
theorem d_LW_law_686 : decode b_LW_law 686 = .ok (.invokevirtual 101, 3) := by decide +kernel
theorem d_LW_law_689 : decode b_LW_law 689 = .ok (.if_icmp .eq 5, 3) := by decide +kernel
theorem d_LW_law_692 : decode b_LW_law 692 = .ok (.iconst 0, 1) := by decide +kernel
theorem d_LW_law_693 : decode b_LW_law 693 = .ok (.ireturn, 1) := by decide +kernel
theorem d_LW_law_694 : decode b_LW_law 694 = .ok (.iinc 4 3, 3) := by decide +kernel
theorem d_LW_law_697 : decode b_LW_law 697 = .ok (.goto (-674), 3) := by decide +kernel
theorem d_LW_law_700 : decode b_LW_law 700 = .ok (.iconst 1, 1) := by decide +kernel
theorem d_LW_law_701 : decode b_LW_law 701 = .ok (.ireturn, 1) := by decide +kernel
theorem d_LW_load_0 : decode b_LW_load 0 = .ok (.aload_n 2, 1) := by decide +kernel
theorem d_LW_load_1 : decode b_LW_load 1 = .ok (.iconst 0, 1) := by decide +kernel
theorem d_LW_load_2 : decode b_LW_load 2 = .ok (.aload_n 0, 1) := by decide +kernel
theorem d_LW_load_3 : decode b_LW_load 3 = .ok (.iload_n 1, 1) := by decide +kernel
theorem d_LW_load_4 : decode b_LW_load 4 = .ok (.invokevirtual 7, 3) := by decide +kernel
theorem d_LW_load_7 : decode b_LW_load 7 = .ok (.i2l, 1) := by decide +kernel
theorem d_LW_load_8 : decode b_LW_load 8 = .ok (.lastore, 1) := by decide +kernel
theorem d_LW_load_9 : decode b_LW_load 9 = .ok (.goto 9, 3) := by decide +kernel
theorem d_LW_load_12 : decode b_LW_load 12 = .ok (.astore_n 3, 1) := by decide +kernel
theorem d_LW_load_13 : decode b_LW_load 13 = .ok (.iconst 1, 1) := by decide +kernel
theorem d_LW_load_14 : decode b_LW_load 14 = .ok (.ireturn, 1) := by decide +kernel
theorem d_LW_load_15 : decode b_LW_load 15 = .ok (.astore_n 3, 1) := by decide +kernel
theorem d_LW_load_16 : decode b_LW_load 16 = .ok (.iconst 2, 1) := by decide +kernel
theorem d_LW_load_17 : decode b_LW_load 17 = .ok (.ireturn, 1) := by decide +kernel
theorem d_LW_load_18 : decode b_LW_load 18 = .ok (.iconst 0, 1) := by decide +kernel
theorem d_LW_load_19 : decode b_LW_load 19 = .ok (.ireturn, 1) := by decide +kernel
theorem d_LW_media_0 : decode b_LW_media 0 = .ok (.aload_n 2, 1) := by decide +kernel
theorem d_LW_media_1 : decode b_LW_media 1 = .ok (.iconst 0, 1) := by decide +kernel
theorem d_LW_media_2 : decode b_LW_media 2 = .ok (.aload_n 0, 1) := by decide +kernel
theorem d_LW_media_3 : decode b_LW_media 3 = .ok (.iload_n 1, 1) := by decide +kernel
theorem d_LW_media_4 : decode b_LW_media 4 = .ok (.invokevirtual 36, 3) := by decide +kernel
theorem d_LW_media_7 : decode b_LW_media 7 = .ok (.i2l, 1) := by decide +kernel
theorem d_LW_media_8 : decode b_LW_media 8 = .ok (.lastore, 1) := by decide +kernel
theorem d_LW_media_9 : decode b_LW_media 9 = .ok (.goto 6, 3) := by decide +kernel
theorem d_LW_media_12 : decode b_LW_media 12 = .ok (.astore_n 3, 1) := by decide +kernel
theorem d_LW_media_13 : decode b_LW_media 13 = .ok (.iconst 1, 1) := by decide +kernel
theorem d_LW_media_14 : decode b_LW_media 14 = .ok (.ireturn, 1) := by decide +kernel
theorem d_LW_media_15 : decode b_LW_media 15 = .ok (.iconst 0, 1) := by decide +kernel
theorem d_LW_media_16 : decode b_LW_media 16 = .ok (.ireturn, 1) := by decide +kernel
theorem d_LW_newest_0 : decode b_LW_newest 0 = .ok (.aload_n 2, 1) := by decide +kernel
theorem d_LW_newest_1 : decode b_LW_newest 1 = .ok (.iconst 0, 1) := by decide +kernel
theorem d_LW_newest_2 : decode b_LW_newest 2 = .ok (.aload_n 0, 1) := by decide +kernel
theorem d_LW_newest_3 : decode b_LW_newest 3 = .ok (.iload_n 1, 1) := by decide +kernel
theorem d_LW_newest_4 : decode b_LW_newest 4 = .ok (.invokevirtual 33, 3) := by decide +kernel
theorem d_LW_newest_7 : decode b_LW_newest 7 = .ok (.i2l, 1) := by decide +kernel
theorem d_LW_newest_8 : decode b_LW_newest 8 = .ok (.lastore, 1) := by decide +kernel
end
section
theorem d_LW_newest_9 : decode b_LW_newest 9 = .ok (.goto 6, 3) := by decide +kernel
theorem d_LW_newest_12 : decode b_LW_newest 12 = .ok (.astore_n 3, 1) := by decide +kernel
theorem d_LW_newest_13 : decode b_LW_newest 13 = .ok (.iconst 1, 1) := by decide +kernel
theorem d_LW_newest_14 : decode b_LW_newest 14 = .ok (.ireturn, 1) := by decide +kernel
theorem d_LW_newest_15 : decode b_LW_newest 15 = .ok (.iconst 0, 1) := by decide +kernel
theorem d_LW_newest_16 : decode b_LW_newest 16 = .ok (.ireturn, 1) := by decide +kernel
theorem d_LW_policy_0 : decode b_LW_policy 0 = .ok (.aload_n 2, 1) := by decide +kernel
theorem d_LW_policy_1 : decode b_LW_policy 1 = .ok (.iconst 0, 1) := by decide +kernel
theorem d_LW_policy_2 : decode b_LW_policy 2 = .ok (.aload_n 0, 1) := by decide +kernel
theorem d_LW_policy_3 : decode b_LW_policy 3 = .ok (.iload_n 1, 1) := by decide +kernel
theorem d_LW_policy_4 : decode b_LW_policy 4 = .ok (.invokevirtual 30, 3) := by decide +kernel
theorem d_LW_policy_7 : decode b_LW_policy 7 = .ok (.i2l, 1) := by decide +kernel
theorem d_LW_policy_8 : decode b_LW_policy 8 = .ok (.lastore, 1) := by decide +kernel
theorem d_LW_policy_9 : decode b_LW_policy 9 = .ok (.goto 6, 3) := by decide +kernel
theorem d_LW_policy_12 : decode b_LW_policy 12 = .ok (.astore_n 3, 1) := by decide +kernel
theorem d_LW_policy_13 : decode b_LW_policy 13 = .ok (.iconst 1, 1) := by decide +kernel
theorem d_LW_policy_14 : decode b_LW_policy 14 = .ok (.ireturn, 1) := by decide +kernel
theorem d_LW_policy_15 : decode b_LW_policy 15 = .ok (.iconst 0, 1) := by decide +kernel
theorem d_LW_policy_16 : decode b_LW_policy 16 = .ok (.ireturn, 1) := by decide +kernel
theorem d_LW_save_0 : decode b_LW_save 0 = .ok (.aload_n 3, 1) := by decide +kernel
theorem d_LW_save_1 : decode b_LW_save 1 = .ok (.iconst 0, 1) := by decide +kernel
theorem d_LW_save_2 : decode b_LW_save 2 = .ok (.aload_n 0, 1) := by decide +kernel
theorem d_LW_save_3 : decode b_LW_save 3 = .ok (.iload_n 1, 1) := by decide +kernel
theorem d_LW_save_4 : decode b_LW_save 4 = .ok (.iload_n 2, 1) := by decide +kernel
theorem d_LW_save_5 : decode b_LW_save 5 = .ok (.invokevirtual 17, 3) := by decide +kernel
theorem d_LW_save_8 : decode b_LW_save 8 = .ok (.i2l, 1) := by decide +kernel
theorem d_LW_save_9 : decode b_LW_save 9 = .ok (.lastore, 1) := by decide +kernel
theorem d_LW_save_10 : decode b_LW_save 10 = .ok (.goto 11, 3) := by decide +kernel
theorem d_LW_save_13 : decode b_LW_save 13 = .ok (.astore 4, 2) := by decide +kernel
theorem d_LW_save_15 : decode b_LW_save 15 = .ok (.iconst 1, 1) := by decide +kernel
theorem d_LW_save_16 : decode b_LW_save 16 = .ok (.ireturn, 1) := by decide +kernel
theorem d_LW_save_17 : decode b_LW_save 17 = .ok (.astore 4, 2) := by decide +kernel
theorem d_LW_save_19 : decode b_LW_save 19 = .ok (.iconst 2, 1) := by decide +kernel
theorem d_LW_save_20 : decode b_LW_save 20 = .ok (.ireturn, 1) := by decide +kernel
theorem d_LW_save_21 : decode b_LW_save 21 = .ok (.iconst 0, 1) := by decide +kernel
theorem d_LW_save_22 : decode b_LW_save 22 = .ok (.ireturn, 1) := by decide +kernel
theorem d_LW_step_0 : decode b_LW_step 0 = .ok (.aload_n 2, 1) := by decide +kernel
theorem d_LW_step_1 : decode b_LW_step 1 = .ok (.iconst 0, 1) := by decide +kernel
theorem d_LW_step_2 : decode b_LW_step 2 = .ok (.aload_n 0, 1) := by decide +kernel
theorem d_LW_step_3 : decode b_LW_step 3 = .ok (.iload_n 1, 1) := by decide +kernel
theorem d_LW_step_4 : decode b_LW_step 4 = .ok (.invokevirtual 25, 3) := by decide +kernel
theorem d_LW_step_7 : decode b_LW_step 7 = .ok (.i2l, 1) := by decide +kernel
theorem d_LW_step_8 : decode b_LW_step 8 = .ok (.lastore, 1) := by decide +kernel
theorem d_LW_step_9 : decode b_LW_step 9 = .ok (.goto 6, 3) := by decide +kernel
theorem d_LW_step_12 : decode b_LW_step 12 = .ok (.astore_n 3, 1) := by decide +kernel
theorem d_LW_step_13 : decode b_LW_step 13 = .ok (.iconst 1, 1) := by decide +kernel
theorem d_LW_step_14 : decode b_LW_step 14 = .ok (.ireturn, 1) := by decide +kernel
theorem d_LW_step_15 : decode b_LW_step 15 = .ok (.iconst 0, 1) := by decide +kernel
theorem d_LW_step_16 : decode b_LW_step 16 = .ok (.ireturn, 1) := by decide +kernel
theorem d_LW_sync_0 : decode b_LW_sync 0 = .ok (.aload_n 1, 1) := by decide +kernel
theorem d_LW_sync_1 : decode b_LW_sync 1 = .ok (.iconst 0, 1) := by decide +kernel
theorem d_LW_sync_2 : decode b_LW_sync 2 = .ok (.aload_n 0, 1) := by decide +kernel
theorem d_LW_sync_3 : decode b_LW_sync 3 = .ok (.invokevirtual 21, 3) := by decide +kernel
theorem d_LW_sync_6 : decode b_LW_sync 6 = .ok (.i2l, 1) := by decide +kernel
theorem d_LW_sync_7 : decode b_LW_sync 7 = .ok (.lastore, 1) := by decide +kernel
theorem d_LW_sync_8 : decode b_LW_sync 8 = .ok (.goto 6, 3) := by decide +kernel
theorem d_LW_sync_11 : decode b_LW_sync 11 = .ok (.astore_n 2, 1) := by decide +kernel
theorem d_LW_sync_12 : decode b_LW_sync 12 = .ok (.iconst 1, 1) := by decide +kernel
theorem d_LW_sync_13 : decode b_LW_sync 13 = .ok (.ireturn, 1) := by decide +kernel
theorem d_LW_sync_14 : decode b_LW_sync 14 = .ok (.iconst 0, 1) := by decide +kernel
theorem d_LW_sync_15 : decode b_LW_sync 15 = .ok (.ireturn, 1) := by decide +kernel
end
section
theorem d_MD_ask_0 : decode b_MD_ask 0 = .ok (.iconst (-1), 1) := by decide +kernel
theorem d_MD_ask_1 : decode b_MD_ask 1 = .ok (.istore 4, 2) := by decide +kernel
theorem d_MD_ask_3 : decode b_MD_ask 3 = .ok (.iconst 0, 1) := by decide +kernel
theorem d_MD_ask_4 : decode b_MD_ask 4 = .ok (.istore 5, 2) := by decide +kernel
theorem d_MD_ask_6 : decode b_MD_ask 6 = .ok (.iload 5, 2) := by decide +kernel
theorem d_MD_ask_8 : decode b_MD_ask 8 = .ok (.aload_n 0, 1) := by decide +kernel
theorem d_MD_ask_9 : decode b_MD_ask 9 = .ok (.getfield 69, 3) := by decide +kernel
theorem d_MD_ask_12 : decode b_MD_ask 12 = .ok (.if_icmp .ge 44, 3) := by decide +kernel
theorem d_MD_ask_15 : decode b_MD_ask 15 = .ok (.aload_n 0, 1) := by decide +kernel
theorem d_MD_ask_16 : decode b_MD_ask 16 = .ok (.getfield 30, 3) := by decide +kernel
theorem d_MD_ask_19 : decode b_MD_ask 19 = .ok (.iload 5, 2) := by decide +kernel
theorem d_MD_ask_21 : decode b_MD_ask 21 = .ok (.iaload, 1) := by decide +kernel
theorem d_MD_ask_22 : decode b_MD_ask 22 = .ok (.iconst 2, 1) := by decide +kernel
theorem d_MD_ask_23 : decode b_MD_ask 23 = .ok (.if_icmp .ne 7, 3) := by decide +kernel
theorem d_MD_ask_26 : decode b_MD_ask 26 = .ok (.iconst (-1), 1) := by decide +kernel
theorem d_MD_ask_27 : decode b_MD_ask 27 = .ok (.goto 21, 3) := by decide +kernel
theorem d_MD_ask_30 : decode b_MD_ask 30 = .ok (.aload_n 0, 1) := by decide +kernel
theorem d_MD_ask_31 : decode b_MD_ask 31 = .ok (.getfield 33, 3) := by decide +kernel
theorem d_MD_ask_34 : decode b_MD_ask 34 = .ok (.iload 5, 2) := by decide +kernel
theorem d_MD_ask_36 : decode b_MD_ask 36 = .ok (.iaload, 1) := by decide +kernel
theorem d_MD_ask_37 : decode b_MD_ask 37 = .ok (.iload_n 2, 1) := by decide +kernel
theorem d_MD_ask_38 : decode b_MD_ask 38 = .ok (.if_icmp .ne 8, 3) := by decide +kernel
theorem d_MD_ask_41 : decode b_MD_ask 41 = .ok (.iload 5, 2) := by decide +kernel
theorem d_MD_ask_43 : decode b_MD_ask 43 = .ok (.goto 5, 3) := by decide +kernel
theorem d_MD_ask_46 : decode b_MD_ask 46 = .ok (.iload 4, 2) := by decide +kernel
theorem d_MD_ask_48 : decode b_MD_ask 48 = .ok (.istore 4, 2) := by decide +kernel
theorem d_MD_ask_50 : decode b_MD_ask 50 = .ok (.iinc 5 1, 3) := by decide +kernel
theorem d_MD_ask_53 : decode b_MD_ask 53 = .ok (.goto (-47), 3) := by decide +kernel
theorem d_MD_ask_56 : decode b_MD_ask 56 = .ok (.iload_n 1, 1) := by decide +kernel
theorem d_MD_ask_57 : decode b_MD_ask 57 = .ok (.iconst 1, 1) := by decide +kernel
theorem d_MD_ask_58 : decode b_MD_ask 58 = .ok (.if_icmp .ne 38, 3) := by decide +kernel
theorem d_MD_ask_61 : decode b_MD_ask 61 = .ok (.iload 4, 2) := by decide +kernel
theorem d_MD_ask_63 : decode b_MD_ask 63 = .ok (.ifCond .lt 33, 3) := by decide +kernel
theorem d_MD_ask_66 : decode b_MD_ask 66 = .ok (.aload_n 0, 1) := by decide +kernel
theorem d_MD_ask_67 : decode b_MD_ask 67 = .ok (.getfield 30, 3) := by decide +kernel
theorem d_MD_ask_70 : decode b_MD_ask 70 = .ok (.iload 4, 2) := by decide +kernel
theorem d_MD_ask_72 : decode b_MD_ask 72 = .ok (.iaload, 1) := by decide +kernel
theorem d_MD_ask_73 : decode b_MD_ask 73 = .ok (.iconst 1, 1) := by decide +kernel
theorem d_MD_ask_74 : decode b_MD_ask 74 = .ok (.if_icmp .ne 22, 3) := by decide +kernel
theorem d_MD_ask_77 : decode b_MD_ask 77 = .ok (.aload_n 0, 1) := by decide +kernel
theorem d_MD_ask_78 : decode b_MD_ask 78 = .ok (.getfield 36, 3) := by decide +kernel
theorem d_MD_ask_81 : decode b_MD_ask 81 = .ok (.iload 4, 2) := by decide +kernel
theorem d_MD_ask_83 : decode b_MD_ask 83 = .ok (.iload_n 3, 1) := by decide +kernel
theorem d_MD_ask_84 : decode b_MD_ask 84 = .ok (.iastore, 1) := by decide +kernel
theorem d_MD_ask_85 : decode b_MD_ask 85 = .ok (.aload_n 0, 1) := by decide +kernel
theorem d_MD_ask_86 : decode b_MD_ask 86 = .ok (.dup, 1) := by decide +kernel
theorem d_MD_ask_87 : decode b_MD_ask 87 = .ok (.getfield 72, 3) := by decide +kernel
theorem d_MD_ask_90 : decode b_MD_ask 90 = .ok (.iconst 1, 1) := by decide +kernel
theorem d_MD_ask_91 : decode b_MD_ask 91 = .ok (.iadd, 1) := by decide +kernel
theorem d_MD_ask_92 : decode b_MD_ask 92 = .ok (.putfield 72, 3) := by decide +kernel
theorem d_MD_ask_95 : decode b_MD_ask 95 = .ok (.return_, 1) := by decide +kernel
theorem d_MD_ask_96 : decode b_MD_ask 96 = .ok (.aload_n 0, 1) := by decide +kernel
theorem d_MD_ask_97 : decode b_MD_ask 97 = .ok (.getfield 27, 3) := by decide +kernel
theorem d_MD_ask_100 : decode b_MD_ask 100 = .ok (.aload_n 0, 1) := by decide +kernel
theorem d_MD_ask_101 : decode b_MD_ask 101 = .ok (.getfield 69, 3) := by decide +kernel
theorem d_MD_ask_104 : decode b_MD_ask 104 = .ok (.aload_n 0, 1) := by decide +kernel
theorem d_MD_ask_105 : decode b_MD_ask 105 = .ok (.getfield 75, 3) := by decide +kernel
theorem d_MD_ask_108 : decode b_MD_ask 108 = .ok (.iastore, 1) := by decide +kernel
theorem d_MD_ask_109 : decode b_MD_ask 109 = .ok (.aload_n 0, 1) := by decide +kernel
theorem d_MD_ask_110 : decode b_MD_ask 110 = .ok (.getfield 30, 3) := by decide +kernel
theorem d_MD_ask_113 : decode b_MD_ask 113 = .ok (.aload_n 0, 1) := by decide +kernel
theorem d_MD_ask_114 : decode b_MD_ask 114 = .ok (.getfield 69, 3) := by decide +kernel
theorem d_MD_ask_117 : decode b_MD_ask 117 = .ok (.iload_n 1, 1) := by decide +kernel
theorem d_MD_ask_118 : decode b_MD_ask 118 = .ok (.iastore, 1) := by decide +kernel
theorem d_MD_ask_119 : decode b_MD_ask 119 = .ok (.aload_n 0, 1) := by decide +kernel
theorem d_MD_ask_120 : decode b_MD_ask 120 = .ok (.getfield 33, 3) := by decide +kernel
theorem d_MD_ask_123 : decode b_MD_ask 123 = .ok (.aload_n 0, 1) := by decide +kernel
theorem d_MD_ask_124 : decode b_MD_ask 124 = .ok (.getfield 69, 3) := by decide +kernel
theorem d_MD_ask_127 : decode b_MD_ask 127 = .ok (.iload_n 2, 1) := by decide +kernel
theorem d_MD_ask_128 : decode b_MD_ask 128 = .ok (.iastore, 1) := by decide +kernel
theorem d_MD_ask_129 : decode b_MD_ask 129 = .ok (.aload_n 0, 1) := by decide +kernel
theorem d_MD_ask_130 : decode b_MD_ask 130 = .ok (.getfield 36, 3) := by decide +kernel
theorem d_MD_ask_133 : decode b_MD_ask 133 = .ok (.aload_n 0, 1) := by decide +kernel
theorem d_MD_ask_134 : decode b_MD_ask 134 = .ok (.getfield 69, 3) := by decide +kernel
theorem d_MD_ask_137 : decode b_MD_ask 137 = .ok (.iload_n 3, 1) := by decide +kernel
theorem d_MD_ask_138 : decode b_MD_ask 138 = .ok (.iastore, 1) := by decide +kernel
theorem d_MD_ask_139 : decode b_MD_ask 139 = .ok (.aload_n 0, 1) := by decide +kernel
theorem d_MD_ask_140 : decode b_MD_ask 140 = .ok (.getfield 39, 3) := by decide +kernel
theorem d_MD_ask_143 : decode b_MD_ask 143 = .ok (.aload_n 0, 1) := by decide +kernel
theorem d_MD_ask_144 : decode b_MD_ask 144 = .ok (.getfield 69, 3) := by decide +kernel
theorem d_MD_ask_147 : decode b_MD_ask 147 = .ok (.aload_n 0, 1) := by decide +kernel
theorem d_MD_ask_148 : decode b_MD_ask 148 = .ok (.getfield 78, 3) := by decide +kernel
theorem d_MD_ask_151 : decode b_MD_ask 151 = .ok (.iastore, 1) := by decide +kernel
theorem d_MD_ask_152 : decode b_MD_ask 152 = .ok (.aload_n 0, 1) := by decide +kernel
theorem d_MD_ask_153 : decode b_MD_ask 153 = .ok (.dup, 1) := by decide +kernel
theorem d_MD_ask_154 : decode b_MD_ask 154 = .ok (.getfield 75, 3) := by decide +kernel
theorem d_MD_ask_157 : decode b_MD_ask 157 = .ok (.iconst 1, 1) := by decide +kernel
theorem d_MD_ask_158 : decode b_MD_ask 158 = .ok (.iadd, 1) := by decide +kernel
theorem d_MD_ask_159 : decode b_MD_ask 159 = .ok (.putfield 75, 3) := by decide +kernel
theorem d_MD_ask_162 : decode b_MD_ask 162 = .ok (.aload_n 0, 1) := by decide +kernel
theorem d_MD_ask_163 : decode b_MD_ask 163 = .ok (.dup, 1) := by decide +kernel
theorem d_MD_ask_164 : decode b_MD_ask 164 = .ok (.getfield 69, 3) := by decide +kernel
theorem d_MD_ask_167 : decode b_MD_ask 167 = .ok (.iconst 1, 1) := by decide +kernel
theorem d_MD_ask_168 : decode b_MD_ask 168 = .ok (.iadd, 1) := by decide +kernel
theorem d_MD_ask_169 : decode b_MD_ask 169 = .ok (.putfield 69, 3) := by decide +kernel
theorem d_MD_ask_172 : decode b_MD_ask 172 = .ok (.return_, 1) := by decide +kernel
theorem d_MD_beginOne_0 : decode b_MD_beginOne 0 = .ok (.aload_n 0, 1) := by decide +kernel
theorem d_MD_beginOne_1 : decode b_MD_beginOne 1 = .ok (.invokevirtual 103, 3) := by decide +kernel
theorem d_MD_beginOne_4 : decode b_MD_beginOne 4 = .ok (.istore_n 1, 1) := by decide +kernel
theorem d_MD_beginOne_5 : decode b_MD_beginOne 5 = .ok (.aload_n 0, 1) := by decide +kernel
theorem d_MD_beginOne_6 : decode b_MD_beginOne 6 = .ok (.iload_n 1, 1) := by decide +kernel
theorem d_MD_beginOne_7 : decode b_MD_beginOne 7 = .ok (.bipush 40, 2) := by decide +kernel
theorem d_MD_beginOne_9 : decode b_MD_beginOne 9 = .ok (.invokevirtual 106, 3) := by decide +kernel
theorem d_MD_beginOne_12 : decode b_MD_beginOne 12 = .ok (.aload_n 0, 1) := by decide +kernel
theorem d_MD_beginOne_13 : decode b_MD_beginOne 13 = .ok (.dup, 1) := by decide +kernel
theorem d_MD_beginOne_14 : decode b_MD_beginOne 14 = .ok (.getfield 69, 3) := by decide +kernel
theorem d_MD_beginOne_17 : decode b_MD_beginOne 17 = .ok (.iconst 1, 1) := by decide +kernel
theorem d_MD_beginOne_18 : decode b_MD_beginOne 18 = .ok (.isub, 1) := by decide +kernel
theorem d_MD_beginOne_19 : decode b_MD_beginOne 19 = .ok (.putfield 69, 3) := by decide +kernel
theorem d_MD_beginOne_22 : decode b_MD_beginOne 22 = .ok (.iload_n 1, 1) := by decide +kernel
theorem d_MD_beginOne_23 : decode b_MD_beginOne 23 = .ok (.istore_n 2, 1) := by decide +kernel
theorem d_MD_beginOne_24 : decode b_MD_beginOne 24 = .ok (.iload_n 2, 1) := by decide +kernel
theorem d_MD_beginOne_25 : decode b_MD_beginOne 25 = .ok (.aload_n 0, 1) := by decide +kernel
theorem d_MD_beginOne_26 : decode b_MD_beginOne 26 = .ok (.getfield 69, 3) := by decide +kernel
theorem d_MD_beginOne_29 : decode b_MD_beginOne 29 = .ok (.if_icmp .ge 17, 3) := by decide +kernel
theorem d_MD_beginOne_32 : decode b_MD_beginOne 32 = .ok (.aload_n 0, 1) := by decide +kernel
theorem d_MD_beginOne_33 : decode b_MD_beginOne 33 = .ok (.iload_n 2, 1) := by decide +kernel
theorem d_MD_beginOne_34 : decode b_MD_beginOne 34 = .ok (.iconst 1, 1) := by decide +kernel
theorem d_MD_beginOne_35 : decode b_MD_beginOne 35 = .ok (.iadd, 1) := by decide +kernel
theorem d_MD_beginOne_36 : decode b_MD_beginOne 36 = .ok (.iload_n 2, 1) := by decide +kernel
theorem d_MD_beginOne_37 : decode b_MD_beginOne 37 = .ok (.invokevirtual 106, 3) := by decide +kernel
theorem d_MD_beginOne_40 : decode b_MD_beginOne 40 = .ok (.iinc 2 1, 3) := by decide +kernel
theorem d_MD_beginOne_43 : decode b_MD_beginOne 43 = .ok (.goto (-19), 3) := by decide +kernel
theorem d_MD_beginOne_46 : decode b_MD_beginOne 46 = .ok (.aload_n 0, 1) := by decide +kernel
theorem d_MD_beginOne_47 : decode b_MD_beginOne 47 = .ok (.iconst 1, 1) := by decide +kernel
theorem d_MD_beginOne_48 : decode b_MD_beginOne 48 = .ok (.putfield 110, 3) := by decide +kernel
theorem d_MD_beginOne_51 : decode b_MD_beginOne 51 = .ok (.aload_n 0, 1) := by decide +kernel
theorem d_MD_beginOne_52 : decode b_MD_beginOne 52 = .ok (.getfield 30, 3) := by decide +kernel
theorem d_MD_beginOne_55 : decode b_MD_beginOne 55 = .ok (.bipush 40, 2) := by decide +kernel
theorem d_MD_beginOne_57 : decode b_MD_beginOne 57 = .ok (.iaload, 1) := by decide +kernel
theorem d_MD_beginOne_58 : decode b_MD_beginOne 58 = .ok (.iconst 2, 1) := by decide +kernel
theorem d_MD_beginOne_59 : decode b_MD_beginOne 59 = .ok (.if_icmp .ne 21, 3) := by decide +kernel
theorem d_MD_beginOne_62 : decode b_MD_beginOne 62 = .ok (.aload_n 0, 1) := by decide +kernel
theorem d_MD_beginOne_63 : decode b_MD_beginOne 63 = .ok (.aload_n 0, 1) := by decide +kernel
theorem d_MD_beginOne_64 : decode b_MD_beginOne 64 = .ok (.getfield 78, 3) := by decide +kernel
theorem d_MD_beginOne_67 : decode b_MD_beginOne 67 = .ok (.aload_n 0, 1) := by decide +kernel
theorem d_MD_beginOne_68 : decode b_MD_beginOne 68 = .ok (.getfield 113, 3) := by decide +kernel
theorem d_MD_beginOne_71 : decode b_MD_beginOne 71 = .ok (.iadd, 1) := by decide +kernel
theorem d_MD_beginOne_72 : decode b_MD_beginOne 72 = .ok (.iconst 1, 1) := by decide +kernel
theorem d_MD_beginOne_73 : decode b_MD_beginOne 73 = .ok (.iadd, 1) := by decide +kernel
theorem d_MD_beginOne_74 : decode b_MD_beginOne 74 = .ok (.putfield 116, 3) := by decide +kernel
theorem d_MD_beginOne_77 : decode b_MD_beginOne 77 = .ok (.goto 46, 3) := by decide +kernel
theorem d_MD_beginOne_80 : decode b_MD_beginOne 80 = .ok (.aload_n 0, 1) := by decide +kernel
theorem d_MD_beginOne_81 : decode b_MD_beginOne 81 = .ok (.bipush 40, 2) := by decide +kernel
theorem d_MD_beginOne_83 : decode b_MD_beginOne 83 = .ok (.invokevirtual 81, 3) := by decide +kernel
theorem d_MD_beginOne_86 : decode b_MD_beginOne 86 = .ok (.aload_n 0, 1) := by decide +kernel
theorem d_MD_beginOne_87 : decode b_MD_beginOne 87 = .ok (.getfield 85, 3) := by decide +kernel
theorem d_MD_beginOne_90 : decode b_MD_beginOne 90 = .ok (.isub, 1) := by decide +kernel
theorem d_MD_beginOne_91 : decode b_MD_beginOne 91 = .ok (.istore_n 2, 1) := by decide +kernel
theorem d_MD_beginOne_92 : decode b_MD_beginOne 92 = .ok (.aload_n 0, 1) := by decide +kernel
theorem d_MD_beginOne_93 : decode b_MD_beginOne 93 = .ok (.aload_n 0, 1) := by decide +kernel
theorem d_MD_beginOne_94 : decode b_MD_beginOne 94 = .ok (.getfield 78, 3) := by decide +kernel
theorem d_MD_beginOne_97 : decode b_MD_beginOne 97 = .ok (.iload_n 2, 1) := by decide +kernel
theorem d_MD_beginOne_98 : decode b_MD_beginOne 98 = .ok (.ifCond .ge 8, 3) := by decide +kernel
theorem d_MD_beginOne_101 : decode b_MD_beginOne 101 = .ok (.iload_n 2, 1) := by decide +kernel
theorem d_MD_beginOne_102 : decode b_MD_beginOne 102 = .ok (.ineg, 1) := by decide +kernel
theorem d_MD_beginOne_103 : decode b_MD_beginOne 103 = .ok (.goto 4, 3) := by decide +kernel
theorem d_MD_beginOne_106 : decode b_MD_beginOne 106 = .ok (.iload_n 2, 1) := by decide +kernel
theorem d_MD_beginOne_107 : decode b_MD_beginOne 107 = .ok (.iadd, 1) := by decide +kernel
theorem d_MD_beginOne_108 : decode b_MD_beginOne 108 = .ok (.iconst 2, 1) := by decide +kernel
theorem d_MD_beginOne_109 : decode b_MD_beginOne 109 = .ok (.iadd, 1) := by decide +kernel
theorem d_MD_beginOne_110 : decode b_MD_beginOne 110 = .ok (.putfield 116, 3) := by decide +kernel
theorem d_MD_beginOne_113 : decode b_MD_beginOne 113 = .ok (.aload_n 0, 1) := by decide +kernel
theorem d_MD_beginOne_114 : decode b_MD_beginOne 114 = .ok (.aload_n 0, 1) := by decide +kernel
theorem d_MD_beginOne_115 : decode b_MD_beginOne 115 = .ok (.bipush 40, 2) := by decide +kernel
theorem d_MD_beginOne_117 : decode b_MD_beginOne 117 = .ok (.invokevirtual 81, 3) := by decide +kernel
theorem d_MD_beginOne_120 : decode b_MD_beginOne 120 = .ok (.putfield 85, 3) := by decide +kernel
theorem d_MD_beginOne_123 : decode b_MD_beginOne 123 = .ok (.return_, 1) := by decide +kernel
theorem d_MD_buffer_0 : decode b_MD_buffer 0 = .ok (.aload_n 0, 1) := by decide +kernel
theorem d_MD_buffer_1 : decode b_MD_buffer 1 = .ok (.iload_n 1, 1) := by decide +kernel
theorem d_MD_buffer_2 : decode b_MD_buffer 2 = .ok (.invokestatic 131, 3) := by decide +kernel
theorem d_MD_buffer_5 : decode b_MD_buffer 5 = .ok (.ifCond .eq 7, 3) := by decide +kernel
theorem d_MD_buffer_8 : decode b_MD_buffer 8 = .ok (.iconst 0, 1) := by decide +kernel
theorem d_MD_buffer_9 : decode b_MD_buffer 9 = .ok (.goto 4, 3) := by decide +kernel
theorem d_MD_buffer_12 : decode b_MD_buffer 12 = .ok (.iconst 1, 1) := by decide +kernel
theorem d_MD_buffer_13 : decode b_MD_buffer 13 = .ok (.putfield 52, 3) := by decide +kernel
theorem d_MD_buffer_16 : decode b_MD_buffer 16 = .ok (.aload_n 0, 1) := by decide +kernel
theorem d_MD_buffer_17 : decode b_MD_buffer 17 = .ok (.getfield 52, 3) := by decide +kernel
theorem d_MD_buffer_20 : decode b_MD_buffer 20 = .ok (.ifCond .le 5, 3) := by decide +kernel
theorem d_MD_buffer_23 : decode b_MD_buffer 23 = .ok (.iconst 0, 1) := by decide +kernel
theorem d_MD_buffer_24 : decode b_MD_buffer 24 = .ok (.ireturn, 1) := by decide +kernel
theorem d_MD_buffer_25 : decode b_MD_buffer 25 = .ok (.aload_n 0, 1) := by decide +kernel
theorem d_MD_buffer_26 : decode b_MD_buffer 26 = .ok (.iload_n 1, 1) := by decide +kernel
theorem d_MD_buffer_27 : decode b_MD_buffer 27 = .ok (.invokevirtual 134, 3) := by decide +kernel
theorem d_MD_buffer_30 : decode b_MD_buffer 30 = .ok (.istore_n 2, 1) := by decide +kernel
theorem d_MD_buffer_31 : decode b_MD_buffer 31 = .ok (.iload_n 2, 1) := by decide +kernel
theorem d_MD_buffer_32 : decode b_MD_buffer 32 = .ok (.ifCond .ge 7, 3) := by decide +kernel
theorem d_MD_buffer_35 : decode b_MD_buffer 35 = .ok (.iconst 0, 1) := by decide +kernel
theorem d_MD_buffer_36 : decode b_MD_buffer 36 = .ok (.goto 17, 3) := by decide +kernel
theorem d_MD_buffer_39 : decode b_MD_buffer 39 = .ok (.aload_n 0, 1) := by decide +kernel
theorem d_MD_buffer_40 : decode b_MD_buffer 40 = .ok (.getfield 23, 3) := by decide +kernel
theorem d_MD_buffer_43 : decode b_MD_buffer 43 = .ok (.iload_n 2, 1) := by decide +kernel
theorem d_MD_buffer_44 : decode b_MD_buffer 44 = .ok (.baload, 1) := by decide +kernel
theorem d_MD_buffer_45 : decode b_MD_buffer 45 = .ok (.ifCond .eq 7, 3) := by decide +kernel
theorem d_MD_buffer_48 : decode b_MD_buffer 48 = .ok (.iconst 2, 1) := by decide +kernel
theorem d_MD_buffer_49 : decode b_MD_buffer 49 = .ok (.goto 4, 3) := by decide +kernel
theorem d_MD_buffer_52 : decode b_MD_buffer 52 = .ok (.iconst 1, 1) := by decide +kernel
theorem d_MD_buffer_53 : decode b_MD_buffer 53 = .ok (.ireturn, 1) := by decide +kernel
theorem d_MD_bufferOf_0 : decode b_MD_bufferOf 0 = .ok (.iconst (-1), 1) := by decide +kernel
theorem d_MD_bufferOf_1 : decode b_MD_bufferOf 1 = .ok (.istore_n 2, 1) := by decide +kernel
theorem d_MD_bufferOf_2 : decode b_MD_bufferOf 2 = .ok (.iconst 0, 1) := by decide +kernel
theorem d_MD_bufferOf_3 : decode b_MD_bufferOf 3 = .ok (.istore_n 3, 1) := by decide +kernel
theorem d_MD_bufferOf_4 : decode b_MD_bufferOf 4 = .ok (.iload_n 3, 1) := by decide +kernel
theorem d_MD_bufferOf_5 : decode b_MD_bufferOf 5 = .ok (.aload_n 0, 1) := by decide +kernel
theorem d_MD_bufferOf_6 : decode b_MD_bufferOf 6 = .ok (.getfield 55, 3) := by decide +kernel
theorem d_MD_bufferOf_9 : decode b_MD_bufferOf 9 = .ok (.if_icmp .ge 25, 3) := by decide +kernel
theorem d_MD_bufferOf_12 : decode b_MD_bufferOf 12 = .ok (.aload_n 0, 1) := by decide +kernel
theorem d_MD_bufferOf_13 : decode b_MD_bufferOf 13 = .ok (.getfield 17, 3) := by decide +kernel
theorem d_MD_bufferOf_16 : decode b_MD_bufferOf 16 = .ok (.iload_n 3, 1) := by decide +kernel
theorem d_MD_bufferOf_17 : decode b_MD_bufferOf 17 = .ok (.iaload, 1) := by decide +kernel
theorem d_MD_bufferOf_18 : decode b_MD_bufferOf 18 = .ok (.iload_n 1, 1) := by decide +kernel
theorem d_MD_bufferOf_19 : decode b_MD_bufferOf 19 = .ok (.if_icmp .ne 7, 3) := by decide +kernel
theorem d_MD_bufferOf_22 : decode b_MD_bufferOf 22 = .ok (.iload_n 3, 1) := by decide +kernel
theorem d_MD_bufferOf_23 : decode b_MD_bufferOf 23 = .ok (.goto 4, 3) := by decide +kernel
theorem d_MD_bufferOf_26 : decode b_MD_bufferOf 26 = .ok (.iload_n 2, 1) := by decide +kernel
theorem d_MD_bufferOf_27 : decode b_MD_bufferOf 27 = .ok (.istore_n 2, 1) := by decide +kernel
theorem d_MD_bufferOf_28 : decode b_MD_bufferOf 28 = .ok (.iinc 3 1, 3) := by decide +kernel
theorem d_MD_bufferOf_31 : decode b_MD_bufferOf 31 = .ok (.goto (-27), 3) := by decide +kernel
theorem d_MD_bufferOf_34 : decode b_MD_bufferOf 34 = .ok (.iload_n 2, 1) := by decide +kernel
theorem d_MD_bufferOf_35 : decode b_MD_bufferOf 35 = .ok (.ireturn, 1) := by decide +kernel
theorem d_MD_cache_0 : decode b_MD_cache 0 = .ok (.iconst 0, 1) := by decide +kernel
theorem d_MD_cache_1 : decode b_MD_cache 1 = .ok (.istore_n 3, 1) := by decide +kernel
theorem d_MD_cache_2 : decode b_MD_cache 2 = .ok (.iconst 0, 1) := by decide +kernel
theorem d_MD_cache_3 : decode b_MD_cache 3 = .ok (.istore 4, 2) := by decide +kernel
theorem d_MD_cache_5 : decode b_MD_cache 5 = .ok (.iload 4, 2) := by decide +kernel
theorem d_MD_cache_7 : decode b_MD_cache 7 = .ok (.aload_n 0, 1) := by decide +kernel
theorem d_MD_cache_8 : decode b_MD_cache 8 = .ok (.getfield 113, 3) := by decide +kernel
theorem d_MD_cache_11 : decode b_MD_cache 11 = .ok (.if_icmp .ge 49, 3) := by decide +kernel
theorem d_MD_cache_14 : decode b_MD_cache 14 = .ok (.aload_n 0, 1) := by decide +kernel
theorem d_MD_cache_15 : decode b_MD_cache 15 = .ok (.getfield 42, 3) := by decide +kernel
theorem d_MD_cache_18 : decode b_MD_cache 18 = .ok (.iload 4, 2) := by decide +kernel
theorem d_MD_cache_20 : decode b_MD_cache 20 = .ok (.iaload, 1) := by decide +kernel
theorem d_MD_cache_21 : decode b_MD_cache 21 = .ok (.iload_n 1, 1) := by decide +kernel
theorem d_MD_cache_22 : decode b_MD_cache 22 = .ok (.if_icmp .eq 32, 3) := by decide +kernel
theorem d_MD_cache_25 : decode b_MD_cache 25 = .ok (.aload_n 0, 1) := by decide +kernel
theorem d_MD_cache_26 : decode b_MD_cache 26 = .ok (.getfield 42, 3) := by decide +kernel
theorem d_MD_cache_29 : decode b_MD_cache 29 = .ok (.iload_n 3, 1) := by decide +kernel
theorem d_MD_cache_30 : decode b_MD_cache 30 = .ok (.aload_n 0, 1) := by decide +kernel
theorem d_MD_cache_31 : decode b_MD_cache 31 = .ok (.getfield 42, 3) := by decide +kernel
theorem d_MD_cache_34 : decode b_MD_cache 34 = .ok (.iload 4, 2) := by decide +kernel
theorem d_MD_cache_36 : decode b_MD_cache 36 = .ok (.iaload, 1) := by decide +kernel
theorem d_MD_cache_37 : decode b_MD_cache 37 = .ok (.iastore, 1) := by decide +kernel
theorem d_MD_cache_38 : decode b_MD_cache 38 = .ok (.aload_n 0, 1) := by decide +kernel
theorem d_MD_cache_39 : decode b_MD_cache 39 = .ok (.getfield 45, 3) := by decide +kernel
theorem d_MD_cache_42 : decode b_MD_cache 42 = .ok (.iload_n 3, 1) := by decide +kernel
theorem d_MD_cache_43 : decode b_MD_cache 43 = .ok (.aload_n 0, 1) := by decide +kernel
theorem d_MD_cache_44 : decode b_MD_cache 44 = .ok (.getfield 45, 3) := by decide +kernel
theorem d_MD_cache_47 : decode b_MD_cache 47 = .ok (.iload 4, 2) := by decide +kernel
theorem d_MD_cache_49 : decode b_MD_cache 49 = .ok (.iaload, 1) := by decide +kernel
theorem d_MD_cache_50 : decode b_MD_cache 50 = .ok (.iastore, 1) := by decide +kernel
theorem d_MD_cache_51 : decode b_MD_cache 51 = .ok (.iinc 3 1, 3) := by decide +kernel
theorem d_MD_cache_54 : decode b_MD_cache 54 = .ok (.iinc 4 1, 3) := by decide +kernel
theorem d_MD_cache_57 : decode b_MD_cache 57 = .ok (.goto (-52), 3) := by decide +kernel
theorem d_MD_cache_60 : decode b_MD_cache 60 = .ok (.aload_n 0, 1) := by decide +kernel
theorem d_MD_cache_61 : decode b_MD_cache 61 = .ok (.getfield 42, 3) := by decide +kernel
theorem d_MD_cache_64 : decode b_MD_cache 64 = .ok (.iload_n 3, 1) := by decide +kernel
theorem d_MD_cache_65 : decode b_MD_cache 65 = .ok (.iload_n 1, 1) := by decide +kernel
theorem d_MD_cache_66 : decode b_MD_cache 66 = .ok (.iastore, 1) := by decide +kernel
theorem d_MD_cache_67 : decode b_MD_cache 67 = .ok (.aload_n 0, 1) := by decide +kernel
theorem d_MD_cache_68 : decode b_MD_cache 68 = .ok (.getfield 45, 3) := by decide +kernel
theorem d_MD_cache_71 : decode b_MD_cache 71 = .ok (.iload_n 3, 1) := by decide +kernel
theorem d_MD_cache_72 : decode b_MD_cache 72 = .ok (.iload_n 2, 1) := by decide +kernel
theorem d_MD_cache_73 : decode b_MD_cache 73 = .ok (.iastore, 1) := by decide +kernel
theorem d_MD_cache_74 : decode b_MD_cache 74 = .ok (.aload_n 0, 1) := by decide +kernel
theorem d_MD_cache_75 : decode b_MD_cache 75 = .ok (.iload_n 3, 1) := by decide +kernel
theorem d_MD_cache_76 : decode b_MD_cache 76 = .ok (.iconst 1, 1) := by decide +kernel
theorem d_MD_cache_77 : decode b_MD_cache 77 = .ok (.iadd, 1) := by decide +kernel
theorem d_MD_cache_78 : decode b_MD_cache 78 = .ok (.putfield 113, 3) := by decide +kernel
theorem d_MD_cache_81 : decode b_MD_cache 81 = .ok (.aload_n 0, 1) := by decide +kernel
theorem d_MD_cache_82 : decode b_MD_cache 82 = .ok (.getfield 113, 3) := by decide +kernel
theorem d_MD_cache_85 : decode b_MD_cache 85 = .ok (.bipush 6, 2) := by decide +kernel
theorem d_MD_cache_87 : decode b_MD_cache 87 = .ok (.if_icmp .le 80, 3) := by decide +kernel
theorem d_MD_cache_90 : decode b_MD_cache 90 = .ok (.aload_n 0, 1) := by decide +kernel
theorem d_MD_cache_91 : decode b_MD_cache 91 = .ok (.getfield 13, 3) := by decide +kernel
theorem d_MD_cache_94 : decode b_MD_cache 94 = .ok (.aload_n 0, 1) := by decide +kernel
theorem d_MD_cache_95 : decode b_MD_cache 95 = .ok (.getfield 42, 3) := by decide +kernel
theorem d_MD_cache_98 : decode b_MD_cache 98 = .ok (.iconst 0, 1) := by decide +kernel
theorem d_MD_cache_99 : decode b_MD_cache 99 = .ok (.iaload, 1) := by decide +kernel
theorem d_MD_cache_100 : decode b_MD_cache 100 = .ok (.aload_n 0, 1) := by decide +kernel
theorem d_MD_cache_101 : decode b_MD_cache 101 = .ok (.getfield 45, 3) := by decide +kernel
theorem d_MD_cache_104 : decode b_MD_cache 104 = .ok (.iconst 0, 1) := by decide +kernel
theorem d_MD_cache_105 : decode b_MD_cache 105 = .ok (.iaload, 1) := by decide +kernel
theorem d_MD_cache_106 : decode b_MD_cache 106 = .ok (.iastore, 1) := by decide +kernel
theorem d_MD_cache_107 : decode b_MD_cache 107 = .ok (.aload_n 0, 1) := by decide +kernel
theorem d_MD_cache_108 : decode b_MD_cache 108 = .ok (.dup, 1) := by decide +kernel
theorem d_MD_cache_109 : decode b_MD_cache 109 = .ok (.getfield 113, 3) := by decide +kernel
theorem d_MD_cache_112 : decode b_MD_cache 112 = .ok (.iconst 1, 1) := by decide +kernel
theorem d_MD_cache_113 : decode b_MD_cache 113 = .ok (.isub, 1) := by decide +kernel
theorem d_MD_cache_114 : decode b_MD_cache 114 = .ok (.putfield 113, 3) := by decide +kernel
theorem d_MD_cache_117 : decode b_MD_cache 117 = .ok (.iconst 0, 1) := by decide +kernel
theorem d_MD_cache_118 : decode b_MD_cache 118 = .ok (.istore 4, 2) := by decide +kernel
theorem d_MD_cache_120 : decode b_MD_cache 120 = .ok (.iload 4, 2) := by decide +kernel
theorem d_MD_cache_122 : decode b_MD_cache 122 = .ok (.aload_n 0, 1) := by decide +kernel
theorem d_MD_cache_123 : decode b_MD_cache 123 = .ok (.getfield 113, 3) := by decide +kernel
theorem d_MD_cache_126 : decode b_MD_cache 126 = .ok (.if_icmp .ge 41, 3) := by decide +kernel
theorem d_MD_cache_129 : decode b_MD_cache 129 = .ok (.aload_n 0, 1) := by decide +kernel
theorem d_MD_cache_130 : decode b_MD_cache 130 = .ok (.getfield 42, 3) := by decide +kernel
theorem d_MD_cache_133 : decode b_MD_cache 133 = .ok (.iload 4, 2) := by decide +kernel
theorem d_MD_cache_135 : decode b_MD_cache 135 = .ok (.aload_n 0, 1) := by decide +kernel
theorem d_MD_cache_136 : decode b_MD_cache 136 = .ok (.getfield 42, 3) := by decide +kernel
theorem d_MD_cache_139 : decode b_MD_cache 139 = .ok (.iload 4, 2) := by decide +kernel
theorem d_MD_cache_141 : decode b_MD_cache 141 = .ok (.iconst 1, 1) := by decide +kernel
theorem d_MD_cache_142 : decode b_MD_cache 142 = .ok (.iadd, 1) := by decide +kernel
theorem d_MD_cache_143 : decode b_MD_cache 143 = .ok (.iaload, 1) := by decide +kernel
theorem d_MD_cache_144 : decode b_MD_cache 144 = .ok (.iastore, 1) := by decide +kernel
theorem d_MD_cache_145 : decode b_MD_cache 145 = .ok (.aload_n 0, 1) := by decide +kernel
theorem d_MD_cache_146 : decode b_MD_cache 146 = .ok (.getfield 45, 3) := by decide +kernel
theorem d_MD_cache_149 : decode b_MD_cache 149 = .ok (.iload 4, 2) := by decide +kernel
theorem d_MD_cache_151 : decode b_MD_cache 151 = .ok (.aload_n 0, 1) := by decide +kernel
theorem d_MD_cache_152 : decode b_MD_cache 152 = .ok (.getfield 45, 3) := by decide +kernel
theorem d_MD_cache_155 : decode b_MD_cache 155 = .ok (.iload 4, 2) := by decide +kernel
theorem d_MD_cache_157 : decode b_MD_cache 157 = .ok (.iconst 1, 1) := by decide +kernel
theorem d_MD_cache_158 : decode b_MD_cache 158 = .ok (.iadd, 1) := by decide +kernel
theorem d_MD_cache_159 : decode b_MD_cache 159 = .ok (.iaload, 1) := by decide +kernel
theorem d_MD_cache_160 : decode b_MD_cache 160 = .ok (.iastore, 1) := by decide +kernel
theorem d_MD_cache_161 : decode b_MD_cache 161 = .ok (.iinc 4 1, 3) := by decide +kernel
theorem d_MD_cache_164 : decode b_MD_cache 164 = .ok (.goto (-44), 3) := by decide +kernel
theorem d_MD_cache_167 : decode b_MD_cache 167 = .ok (.return_, 1) := by decide +kernel
theorem d_MD_chosen_0 : decode b_MD_chosen 0 = .ok (.aload_n 0, 1) := by decide +kernel
theorem d_MD_chosen_1 : decode b_MD_chosen 1 = .ok (.getfield 30, 3) := by decide +kernel
theorem d_MD_chosen_4 : decode b_MD_chosen 4 = .ok (.iconst 0, 1) := by decide +kernel
theorem d_MD_chosen_5 : decode b_MD_chosen 5 = .ok (.iaload, 1) := by decide +kernel
theorem d_MD_chosen_6 : decode b_MD_chosen 6 = .ok (.iconst 2, 1) := by decide +kernel
theorem d_MD_chosen_7 : decode b_MD_chosen 7 = .ok (.if_icmp .eq 34, 3) := by decide +kernel
theorem d_MD_chosen_10 : decode b_MD_chosen 10 = .ok (.aload_n 0, 1) := by decide +kernel
theorem d_MD_chosen_11 : decode b_MD_chosen 11 = .ok (.getfield 7, 3) := by decide +kernel
theorem d_MD_chosen_14 : decode b_MD_chosen 14 = .ok (.ifCond .eq 27, 3) := by decide +kernel
theorem d_MD_chosen_17 : decode b_MD_chosen 17 = .ok (.aload_n 0, 1) := by decide +kernel
theorem d_MD_chosen_18 : decode b_MD_chosen 18 = .ok (.getfield 7, 3) := by decide +kernel
theorem d_MD_chosen_21 : decode b_MD_chosen 21 = .ok (.iconst 4, 1) := by decide +kernel
theorem d_MD_chosen_22 : decode b_MD_chosen 22 = .ok (.if_icmp .ne 21, 3) := by decide +kernel
theorem d_MD_chosen_25 : decode b_MD_chosen 25 = .ok (.aload_n 0, 1) := by decide +kernel
theorem d_MD_chosen_26 : decode b_MD_chosen 26 = .ok (.getfield 78, 3) := by decide +kernel
theorem d_MD_chosen_29 : decode b_MD_chosen 29 = .ok (.aload_n 0, 1) := by decide +kernel
theorem d_MD_chosen_30 : decode b_MD_chosen 30 = .ok (.getfield 39, 3) := by decide +kernel
theorem d_MD_chosen_33 : decode b_MD_chosen 33 = .ok (.iconst 0, 1) := by decide +kernel
theorem d_MD_chosen_34 : decode b_MD_chosen 34 = .ok (.iaload, 1) := by decide +kernel
theorem d_MD_chosen_35 : decode b_MD_chosen 35 = .ok (.isub, 1) := by decide +kernel
theorem d_MD_chosen_36 : decode b_MD_chosen 36 = .ok (.bipush 100, 2) := by decide +kernel
theorem d_MD_chosen_38 : decode b_MD_chosen 38 = .ok (.if_icmp .lt 5, 3) := by decide +kernel
theorem d_MD_chosen_41 : decode b_MD_chosen 41 = .ok (.iconst 0, 1) := by decide +kernel
theorem d_MD_chosen_42 : decode b_MD_chosen 42 = .ok (.ireturn, 1) := by decide +kernel
theorem d_MD_chosen_43 : decode b_MD_chosen 43 = .ok (.aload_n 0, 1) := by decide +kernel
theorem d_MD_chosen_44 : decode b_MD_chosen 44 = .ok (.aload_n 0, 1) := by decide +kernel
theorem d_MD_chosen_45 : decode b_MD_chosen 45 = .ok (.getfield 7, 3) := by decide +kernel
theorem d_MD_chosen_48 : decode b_MD_chosen 48 = .ok (.invokevirtual 96, 3) := by decide +kernel
theorem d_MD_chosen_51 : decode b_MD_chosen 51 = .ok (.istore_n 1, 1) := by decide +kernel
theorem d_MD_chosen_52 : decode b_MD_chosen 52 = .ok (.iload_n 1, 1) := by decide +kernel
theorem d_MD_chosen_53 : decode b_MD_chosen 53 = .ok (.ifCond .ge 33, 3) := by decide +kernel
theorem d_MD_chosen_56 : decode b_MD_chosen 56 = .ok (.aload_n 0, 1) := by decide +kernel
theorem d_MD_chosen_57 : decode b_MD_chosen 57 = .ok (.getfield 7, 3) := by decide +kernel
theorem d_MD_chosen_60 : decode b_MD_chosen 60 = .ok (.iconst 2, 1) := by decide +kernel
theorem d_MD_chosen_61 : decode b_MD_chosen 61 = .ok (.if_icmp .ne 25, 3) := by decide +kernel
theorem d_MD_chosen_64 : decode b_MD_chosen 64 = .ok (.aload_n 0, 1) := by decide +kernel
theorem d_MD_chosen_65 : decode b_MD_chosen 65 = .ok (.aload_n 0, 1) := by decide +kernel
theorem d_MD_chosen_66 : decode b_MD_chosen 66 = .ok (.getfield 48, 3) := by decide +kernel
theorem d_MD_chosen_69 : decode b_MD_chosen 69 = .ok (.ifCond .ne 7, 3) := by decide +kernel
theorem d_MD_chosen_72 : decode b_MD_chosen 72 = .ok (.iconst 1, 1) := by decide +kernel
theorem d_MD_chosen_73 : decode b_MD_chosen 73 = .ok (.goto 4, 3) := by decide +kernel
theorem d_MD_chosen_76 : decode b_MD_chosen 76 = .ok (.iconst 0, 1) := by decide +kernel
theorem d_MD_chosen_77 : decode b_MD_chosen 77 = .ok (.putfield 48, 3) := by decide +kernel
theorem d_MD_chosen_80 : decode b_MD_chosen 80 = .ok (.aload_n 0, 1) := by decide +kernel
theorem d_MD_chosen_81 : decode b_MD_chosen 81 = .ok (.iconst 2, 1) := by decide +kernel
theorem d_MD_chosen_82 : decode b_MD_chosen 82 = .ok (.invokevirtual 96, 3) := by decide +kernel
theorem d_MD_chosen_85 : decode b_MD_chosen 85 = .ok (.istore_n 1, 1) := by decide +kernel
theorem d_MD_chosen_86 : decode b_MD_chosen 86 = .ok (.iload_n 1, 1) := by decide +kernel
theorem d_MD_chosen_87 : decode b_MD_chosen 87 = .ok (.ifCond .ge 10, 3) := by decide +kernel
theorem d_MD_chosen_90 : decode b_MD_chosen 90 = .ok (.aload_n 0, 1) := by decide +kernel
theorem d_MD_chosen_91 : decode b_MD_chosen 91 = .ok (.invokevirtual 99, 3) := by decide +kernel
theorem d_MD_chosen_94 : decode b_MD_chosen 94 = .ok (.goto 4, 3) := by decide +kernel
theorem d_MD_chosen_97 : decode b_MD_chosen 97 = .ok (.iload_n 1, 1) := by decide +kernel
theorem d_MD_chosen_98 : decode b_MD_chosen 98 = .ok (.ireturn, 1) := by decide +kernel
theorem d_MD_closeUp_0 : decode b_MD_closeUp 0 = .ok (.aload_n 0, 1) := by decide +kernel
theorem d_MD_closeUp_1 : decode b_MD_closeUp 1 = .ok (.dup, 1) := by decide +kernel
theorem d_MD_closeUp_2 : decode b_MD_closeUp 2 = .ok (.getfield 55, 3) := by decide +kernel
theorem d_MD_closeUp_5 : decode b_MD_closeUp 5 = .ok (.iconst 1, 1) := by decide +kernel
theorem d_MD_closeUp_6 : decode b_MD_closeUp 6 = .ok (.isub, 1) := by decide +kernel
theorem d_MD_closeUp_7 : decode b_MD_closeUp 7 = .ok (.putfield 55, 3) := by decide +kernel
theorem d_MD_closeUp_10 : decode b_MD_closeUp 10 = .ok (.iload_n 1, 1) := by decide +kernel
theorem d_MD_closeUp_11 : decode b_MD_closeUp 11 = .ok (.istore_n 2, 1) := by decide +kernel
theorem d_MD_closeUp_12 : decode b_MD_closeUp 12 = .ok (.iload_n 2, 1) := by decide +kernel
theorem d_MD_closeUp_13 : decode b_MD_closeUp 13 = .ok (.aload_n 0, 1) := by decide +kernel
theorem d_MD_closeUp_14 : decode b_MD_closeUp 14 = .ok (.getfield 55, 3) := by decide +kernel
theorem d_MD_closeUp_17 : decode b_MD_closeUp 17 = .ok (.if_icmp .ge 51, 3) := by decide +kernel
theorem d_MD_closeUp_20 : decode b_MD_closeUp 20 = .ok (.aload_n 0, 1) := by decide +kernel
theorem d_MD_closeUp_21 : decode b_MD_closeUp 21 = .ok (.getfield 17, 3) := by decide +kernel
theorem d_MD_closeUp_24 : decode b_MD_closeUp 24 = .ok (.iload_n 2, 1) := by decide +kernel
theorem d_MD_closeUp_25 : decode b_MD_closeUp 25 = .ok (.aload_n 0, 1) := by decide +kernel
theorem d_MD_closeUp_26 : decode b_MD_closeUp 26 = .ok (.getfield 17, 3) := by decide +kernel
theorem d_MD_closeUp_29 : decode b_MD_closeUp 29 = .ok (.iload_n 2, 1) := by decide +kernel
theorem d_MD_closeUp_30 : decode b_MD_closeUp 30 = .ok (.iconst 1, 1) := by decide +kernel
theorem d_MD_closeUp_31 : decode b_MD_closeUp 31 = .ok (.iadd, 1) := by decide +kernel
theorem d_MD_closeUp_32 : decode b_MD_closeUp 32 = .ok (.iaload, 1) := by decide +kernel
theorem d_MD_closeUp_33 : decode b_MD_closeUp 33 = .ok (.iastore, 1) := by decide +kernel
theorem d_MD_closeUp_34 : decode b_MD_closeUp 34 = .ok (.aload_n 0, 1) := by decide +kernel
theorem d_MD_closeUp_35 : decode b_MD_closeUp 35 = .ok (.getfield 20, 3) := by decide +kernel
theorem d_MD_closeUp_38 : decode b_MD_closeUp 38 = .ok (.iload_n 2, 1) := by decide +kernel
theorem d_MD_closeUp_39 : decode b_MD_closeUp 39 = .ok (.aload_n 0, 1) := by decide +kernel
theorem d_MD_closeUp_40 : decode b_MD_closeUp 40 = .ok (.getfield 20, 3) := by decide +kernel
theorem d_MD_closeUp_43 : decode b_MD_closeUp 43 = .ok (.iload_n 2, 1) := by decide +kernel
theorem d_MD_closeUp_44 : decode b_MD_closeUp 44 = .ok (.iconst 1, 1) := by decide +kernel
theorem d_MD_closeUp_45 : decode b_MD_closeUp 45 = .ok (.iadd, 1) := by decide +kernel
theorem d_MD_closeUp_46 : decode b_MD_closeUp 46 = .ok (.iaload, 1) := by decide +kernel
theorem d_MD_closeUp_47 : decode b_MD_closeUp 47 = .ok (.iastore, 1) := by decide +kernel
theorem d_MD_closeUp_48 : decode b_MD_closeUp 48 = .ok (.aload_n 0, 1) := by decide +kernel
theorem d_MD_closeUp_49 : decode b_MD_closeUp 49 = .ok (.getfield 23, 3) := by decide +kernel
theorem d_MD_closeUp_52 : decode b_MD_closeUp 52 = .ok (.iload_n 2, 1) := by decide +kernel
theorem d_MD_closeUp_53 : decode b_MD_closeUp 53 = .ok (.aload_n 0, 1) := by decide +kernel
theorem d_MD_closeUp_54 : decode b_MD_closeUp 54 = .ok (.getfield 23, 3) := by decide +kernel
theorem d_MD_closeUp_57 : decode b_MD_closeUp 57 = .ok (.iload_n 2, 1) := by decide +kernel
theorem d_MD_closeUp_58 : decode b_MD_closeUp 58 = .ok (.iconst 1, 1) := by decide +kernel
theorem d_MD_closeUp_59 : decode b_MD_closeUp 59 = .ok (.iadd, 1) := by decide +kernel
theorem d_MD_closeUp_60 : decode b_MD_closeUp 60 = .ok (.baload, 1) := by decide +kernel
theorem d_MD_closeUp_61 : decode b_MD_closeUp 61 = .ok (.bastore, 1) := by decide +kernel
theorem d_MD_closeUp_62 : decode b_MD_closeUp 62 = .ok (.iinc 2 1, 3) := by decide +kernel
theorem d_MD_closeUp_65 : decode b_MD_closeUp 65 = .ok (.goto (-53), 3) := by decide +kernel
theorem d_MD_closeUp_68 : decode b_MD_closeUp 68 = .ok (.return_, 1) := by decide +kernel
theorem d_MD_copyRequest_0 : decode b_MD_copyRequest 0 = .ok (.aload_n 0, 1) := by decide +kernel
theorem d_MD_copyRequest_1 : decode b_MD_copyRequest 1 = .ok (.getfield 27, 3) := by decide +kernel
theorem d_MD_copyRequest_4 : decode b_MD_copyRequest 4 = .ok (.iload_n 2, 1) := by decide +kernel
theorem d_MD_copyRequest_5 : decode b_MD_copyRequest 5 = .ok (.aload_n 0, 1) := by decide +kernel
theorem d_MD_copyRequest_6 : decode b_MD_copyRequest 6 = .ok (.getfield 27, 3) := by decide +kernel
theorem d_MD_copyRequest_9 : decode b_MD_copyRequest 9 = .ok (.iload_n 1, 1) := by decide +kernel
theorem d_MD_copyRequest_10 : decode b_MD_copyRequest 10 = .ok (.iaload, 1) := by decide +kernel
theorem d_MD_copyRequest_11 : decode b_MD_copyRequest 11 = .ok (.iastore, 1) := by decide +kernel
theorem d_MD_copyRequest_12 : decode b_MD_copyRequest 12 = .ok (.aload_n 0, 1) := by decide +kernel
theorem d_MD_copyRequest_13 : decode b_MD_copyRequest 13 = .ok (.getfield 30, 3) := by decide +kernel
theorem d_MD_copyRequest_16 : decode b_MD_copyRequest 16 = .ok (.iload_n 2, 1) := by decide +kernel
theorem d_MD_copyRequest_17 : decode b_MD_copyRequest 17 = .ok (.aload_n 0, 1) := by decide +kernel
theorem d_MD_copyRequest_18 : decode b_MD_copyRequest 18 = .ok (.getfield 30, 3) := by decide +kernel
theorem d_MD_copyRequest_21 : decode b_MD_copyRequest 21 = .ok (.iload_n 1, 1) := by decide +kernel
theorem d_MD_copyRequest_22 : decode b_MD_copyRequest 22 = .ok (.iaload, 1) := by decide +kernel
theorem d_MD_copyRequest_23 : decode b_MD_copyRequest 23 = .ok (.iastore, 1) := by decide +kernel
theorem d_MD_copyRequest_24 : decode b_MD_copyRequest 24 = .ok (.aload_n 0, 1) := by decide +kernel
theorem d_MD_copyRequest_25 : decode b_MD_copyRequest 25 = .ok (.getfield 33, 3) := by decide +kernel
theorem d_MD_copyRequest_28 : decode b_MD_copyRequest 28 = .ok (.iload_n 2, 1) := by decide +kernel
theorem d_MD_copyRequest_29 : decode b_MD_copyRequest 29 = .ok (.aload_n 0, 1) := by decide +kernel
theorem d_MD_copyRequest_30 : decode b_MD_copyRequest 30 = .ok (.getfield 33, 3) := by decide +kernel
theorem d_MD_copyRequest_33 : decode b_MD_copyRequest 33 = .ok (.iload_n 1, 1) := by decide +kernel
theorem d_MD_copyRequest_34 : decode b_MD_copyRequest 34 = .ok (.iaload, 1) := by decide +kernel
theorem d_MD_copyRequest_35 : decode b_MD_copyRequest 35 = .ok (.iastore, 1) := by decide +kernel
theorem d_MD_copyRequest_36 : decode b_MD_copyRequest 36 = .ok (.aload_n 0, 1) := by decide +kernel
theorem d_MD_copyRequest_37 : decode b_MD_copyRequest 37 = .ok (.getfield 36, 3) := by decide +kernel
theorem d_MD_copyRequest_40 : decode b_MD_copyRequest 40 = .ok (.iload_n 2, 1) := by decide +kernel
theorem d_MD_copyRequest_41 : decode b_MD_copyRequest 41 = .ok (.aload_n 0, 1) := by decide +kernel
theorem d_MD_copyRequest_42 : decode b_MD_copyRequest 42 = .ok (.getfield 36, 3) := by decide +kernel
theorem d_MD_copyRequest_45 : decode b_MD_copyRequest 45 = .ok (.iload_n 1, 1) := by decide +kernel
theorem d_MD_copyRequest_46 : decode b_MD_copyRequest 46 = .ok (.iaload, 1) := by decide +kernel
theorem d_MD_copyRequest_47 : decode b_MD_copyRequest 47 = .ok (.iastore, 1) := by decide +kernel
theorem d_MD_copyRequest_48 : decode b_MD_copyRequest 48 = .ok (.aload_n 0, 1) := by decide +kernel
end
section
theorem d_MD_copyRequest_49 : decode b_MD_copyRequest 49 = .ok (.getfield 39, 3) := by decide +kernel
theorem d_MD_copyRequest_52 : decode b_MD_copyRequest 52 = .ok (.iload_n 2, 1) := by decide +kernel
theorem d_MD_copyRequest_53 : decode b_MD_copyRequest 53 = .ok (.aload_n 0, 1) := by decide +kernel
theorem d_MD_copyRequest_54 : decode b_MD_copyRequest 54 = .ok (.getfield 39, 3) := by decide +kernel
theorem d_MD_copyRequest_57 : decode b_MD_copyRequest 57 = .ok (.iload_n 1, 1) := by decide +kernel
theorem d_MD_copyRequest_58 : decode b_MD_copyRequest 58 = .ok (.iaload, 1) := by decide +kernel
theorem d_MD_copyRequest_59 : decode b_MD_copyRequest 59 = .ok (.iastore, 1) := by decide +kernel
theorem d_MD_copyRequest_60 : decode b_MD_copyRequest 60 = .ok (.return_, 1) := by decide +kernel
theorem d_MD_crash_0 : decode b_MD_crash 0 = .ok (.aload_n 0, 1) := by decide +kernel
theorem d_MD_crash_1 : decode b_MD_crash 1 = .ok (.iconst 0, 1) := by decide +kernel
theorem d_MD_crash_2 : decode b_MD_crash 2 = .ok (.putfield 52, 3) := by decide +kernel
theorem d_MD_crash_5 : decode b_MD_crash 5 = .ok (.iconst 0, 1) := by decide +kernel
theorem d_MD_crash_6 : decode b_MD_crash 6 = .ok (.istore_n 1, 1) := by decide +kernel
theorem d_MD_crash_7 : decode b_MD_crash 7 = .ok (.iconst 0, 1) := by decide +kernel
theorem d_MD_crash_8 : decode b_MD_crash 8 = .ok (.istore_n 2, 1) := by decide +kernel
theorem d_MD_crash_9 : decode b_MD_crash 9 = .ok (.iload_n 2, 1) := by decide +kernel
theorem d_MD_crash_10 : decode b_MD_crash 10 = .ok (.sipush 256, 3) := by decide +kernel
theorem d_MD_crash_13 : decode b_MD_crash 13 = .ok (.if_icmp .ge 31, 3) := by decide +kernel
theorem d_MD_crash_16 : decode b_MD_crash 16 = .ok (.iload_n 1, 1) := by decide +kernel
theorem d_MD_crash_17 : decode b_MD_crash 17 = .ok (.aload_n 0, 1) := by decide +kernel
theorem d_MD_crash_18 : decode b_MD_crash 18 = .ok (.iload_n 2, 1) := by decide +kernel
theorem d_MD_crash_19 : decode b_MD_crash 19 = .ok (.invokevirtual 159, 3) := by decide +kernel
theorem d_MD_crash_22 : decode b_MD_crash 22 = .ok (.aload_n 0, 1) := by decide +kernel
theorem d_MD_crash_23 : decode b_MD_crash 23 = .ok (.getfield 13, 3) := by decide +kernel
theorem d_MD_crash_26 : decode b_MD_crash 26 = .ok (.iload_n 2, 1) := by decide +kernel
theorem d_MD_crash_27 : decode b_MD_crash 27 = .ok (.iaload, 1) := by decide +kernel
theorem d_MD_crash_28 : decode b_MD_crash 28 = .ok (.if_icmp .eq 7, 3) := by decide +kernel
theorem d_MD_crash_31 : decode b_MD_crash 31 = .ok (.iconst 1, 1) := by decide +kernel
theorem d_MD_crash_32 : decode b_MD_crash 32 = .ok (.goto 4, 3) := by decide +kernel
theorem d_MD_crash_35 : decode b_MD_crash 35 = .ok (.iconst 0, 1) := by decide +kernel
theorem d_MD_crash_36 : decode b_MD_crash 36 = .ok (.iadd, 1) := by decide +kernel
theorem d_MD_crash_37 : decode b_MD_crash 37 = .ok (.istore_n 1, 1) := by decide +kernel
theorem d_MD_crash_38 : decode b_MD_crash 38 = .ok (.iinc 2 1, 3) := by decide +kernel
theorem d_MD_crash_41 : decode b_MD_crash 41 = .ok (.goto (-32), 3) := by decide +kernel
theorem d_MD_crash_44 : decode b_MD_crash 44 = .ok (.aload_n 0, 1) := by decide +kernel
theorem d_MD_crash_45 : decode b_MD_crash 45 = .ok (.iconst 0, 1) := by decide +kernel
theorem d_MD_crash_46 : decode b_MD_crash 46 = .ok (.putfield 55, 3) := by decide +kernel
theorem d_MD_crash_49 : decode b_MD_crash 49 = .ok (.aload_n 0, 1) := by decide +kernel
theorem d_MD_crash_50 : decode b_MD_crash 50 = .ok (.iconst 0, 1) := by decide +kernel
theorem d_MD_crash_51 : decode b_MD_crash 51 = .ok (.putfield 69, 3) := by decide +kernel
theorem d_MD_crash_54 : decode b_MD_crash 54 = .ok (.aload_n 0, 1) := by decide +kernel
theorem d_MD_crash_55 : decode b_MD_crash 55 = .ok (.iconst 0, 1) := by decide +kernel
theorem d_MD_crash_56 : decode b_MD_crash 56 = .ok (.putfield 113, 3) := by decide +kernel
theorem d_MD_crash_59 : decode b_MD_crash 59 = .ok (.aload_n 0, 1) := by decide +kernel
theorem d_MD_crash_60 : decode b_MD_crash 60 = .ok (.iconst 0, 1) := by decide +kernel
theorem d_MD_crash_61 : decode b_MD_crash 61 = .ok (.putfield 110, 3) := by decide +kernel
theorem d_MD_crash_64 : decode b_MD_crash 64 = .ok (.aload_n 0, 1) := by decide +kernel
theorem d_MD_crash_65 : decode b_MD_crash 65 = .ok (.iconst 0, 1) := by decide +kernel
theorem d_MD_crash_66 : decode b_MD_crash 66 = .ok (.putfield 85, 3) := by decide +kernel
theorem d_MD_crash_69 : decode b_MD_crash 69 = .ok (.aload_n 0, 1) := by decide +kernel
theorem d_MD_crash_70 : decode b_MD_crash 70 = .ok (.iconst 1, 1) := by decide +kernel
theorem d_MD_crash_71 : decode b_MD_crash 71 = .ok (.putfield 48, 3) := by decide +kernel
theorem d_MD_crash_74 : decode b_MD_crash 74 = .ok (.iload_n 1, 1) := by decide +kernel
theorem d_MD_crash_75 : decode b_MD_crash 75 = .ok (.ireturn, 1) := by decide +kernel
theorem d_MD_distance_0 : decode b_MD_distance 0 = .ok (.aload_n 0, 1) := by decide +kernel
theorem d_MD_distance_1 : decode b_MD_distance 1 = .ok (.iload_n 1, 1) := by decide +kernel
theorem d_MD_distance_2 : decode b_MD_distance 2 = .ok (.invokevirtual 81, 3) := by decide +kernel
theorem d_MD_distance_5 : decode b_MD_distance 5 = .ok (.aload_n 0, 1) := by decide +kernel
theorem d_MD_distance_6 : decode b_MD_distance 6 = .ok (.getfield 85, 3) := by decide +kernel
theorem d_MD_distance_9 : decode b_MD_distance 9 = .ok (.isub, 1) := by decide +kernel
theorem d_MD_distance_10 : decode b_MD_distance 10 = .ok (.istore_n 3, 1) := by decide +kernel
theorem d_MD_distance_11 : decode b_MD_distance 11 = .ok (.iload_n 2, 1) := by decide +kernel
theorem d_MD_distance_12 : decode b_MD_distance 12 = .ok (.lookupswitch 53 #[(1, 28), (2, 39)], 28) := by decide +kernel
theorem d_MD_distance_40 : decode b_MD_distance 40 = .ok (.iload_n 3, 1) := by decide +kernel
theorem d_MD_distance_41 : decode b_MD_distance 41 = .ok (.ifCond .ge 8, 3) := by decide +kernel
theorem d_MD_distance_44 : decode b_MD_distance 44 = .ok (.iload_n 3, 1) := by decide +kernel
theorem d_MD_distance_45 : decode b_MD_distance 45 = .ok (.ineg, 1) := by decide +kernel
theorem d_MD_distance_46 : decode b_MD_distance 46 = .ok (.goto 4, 3) := by decide +kernel
theorem d_MD_distance_49 : decode b_MD_distance 49 = .ok (.iload_n 3, 1) := by decide +kernel
theorem d_MD_distance_50 : decode b_MD_distance 50 = .ok (.ireturn, 1) := by decide +kernel
theorem d_MD_distance_51 : decode b_MD_distance 51 = .ok (.aload_n 0, 1) := by decide +kernel
theorem d_MD_distance_52 : decode b_MD_distance 52 = .ok (.getfield 48, 3) := by decide +kernel
theorem d_MD_distance_55 : decode b_MD_distance 55 = .ok (.ifCond .eq 7, 3) := by decide +kernel
theorem d_MD_distance_58 : decode b_MD_distance 58 = .ok (.iload_n 3, 1) := by decide +kernel
theorem d_MD_distance_59 : decode b_MD_distance 59 = .ok (.goto 5, 3) := by decide +kernel
theorem d_MD_distance_62 : decode b_MD_distance 62 = .ok (.iload_n 3, 1) := by decide +kernel
theorem d_MD_distance_63 : decode b_MD_distance 63 = .ok (.ineg, 1) := by decide +kernel
theorem d_MD_distance_64 : decode b_MD_distance 64 = .ok (.ireturn, 1) := by decide +kernel
theorem d_MD_distance_65 : decode b_MD_distance 65 = .ok (.iload_n 3, 1) := by decide +kernel
theorem d_MD_distance_66 : decode b_MD_distance 66 = .ok (.ireturn, 1) := by decide +kernel
theorem d_MD_drain_0 : decode b_MD_drain 0 = .ok (.aload_n 0, 1) := by decide +kernel
theorem d_MD_drain_1 : decode b_MD_drain 1 = .ok (.iconst 0, 1) := by decide +kernel
theorem d_MD_drain_2 : decode b_MD_drain 2 = .ok (.putfield 52, 3) := by decide +kernel
theorem d_MD_drain_5 : decode b_MD_drain 5 = .ok (.aload_n 0, 1) := by decide +kernel
theorem d_MD_drain_6 : decode b_MD_drain 6 = .ok (.getfield 78, 3) := by decide +kernel
theorem d_MD_drain_9 : decode b_MD_drain 9 = .ok (.istore_n 1, 1) := by decide +kernel
theorem d_MD_drain_10 : decode b_MD_drain 10 = .ok (.aload_n 0, 1) := by decide +kernel
theorem d_MD_drain_11 : decode b_MD_drain 11 = .ok (.getfield 110, 3) := by decide +kernel
theorem d_MD_drain_14 : decode b_MD_drain 14 = .ok (.ifCond .ne 10, 3) := by decide +kernel
theorem d_MD_drain_17 : decode b_MD_drain 17 = .ok (.aload_n 0, 1) := by decide +kernel
theorem d_MD_drain_18 : decode b_MD_drain 18 = .ok (.getfield 69, 3) := by decide +kernel
theorem d_MD_drain_21 : decode b_MD_drain 21 = .ok (.ifCond .le 21, 3) := by decide +kernel
theorem d_MD_drain_24 : decode b_MD_drain 24 = .ok (.aload_n 0, 1) := by decide +kernel
theorem d_MD_drain_25 : decode b_MD_drain 25 = .ok (.getfield 110, 3) := by decide +kernel
theorem d_MD_drain_28 : decode b_MD_drain 28 = .ok (.ifCond .ne 7, 3) := by decide +kernel
theorem d_MD_drain_31 : decode b_MD_drain 31 = .ok (.aload_n 0, 1) := by decide +kernel
theorem d_MD_drain_32 : decode b_MD_drain 32 = .ok (.invokevirtual 150, 3) := by decide +kernel
theorem d_MD_drain_35 : decode b_MD_drain 35 = .ok (.aload_n 0, 1) := by decide +kernel
theorem d_MD_drain_36 : decode b_MD_drain 36 = .ok (.invokevirtual 153, 3) := by decide +kernel
theorem d_MD_drain_39 : decode b_MD_drain 39 = .ok (.goto (-29), 3) := by decide +kernel
theorem d_MD_drain_42 : decode b_MD_drain 42 = .ok (.aload_n 0, 1) := by decide +kernel
theorem d_MD_drain_43 : decode b_MD_drain 43 = .ok (.getfield 78, 3) := by decide +kernel
theorem d_MD_drain_46 : decode b_MD_drain 46 = .ok (.iload_n 1, 1) := by decide +kernel
theorem d_MD_drain_47 : decode b_MD_drain 47 = .ok (.isub, 1) := by decide +kernel
theorem d_MD_drain_48 : decode b_MD_drain 48 = .ok (.ireturn, 1) := by decide +kernel
theorem d_MD_endOne_0 : decode b_MD_endOne 0 = .ok (.aload_n 0, 1) := by decide +kernel
theorem d_MD_endOne_1 : decode b_MD_endOne 1 = .ok (.iconst 0, 1) := by decide +kernel
theorem d_MD_endOne_2 : decode b_MD_endOne 2 = .ok (.putfield 110, 3) := by decide +kernel
theorem d_MD_endOne_5 : decode b_MD_endOne 5 = .ok (.aload_n 0, 1) := by decide +kernel
theorem d_MD_endOne_6 : decode b_MD_endOne 6 = .ok (.dup, 1) := by decide +kernel
theorem d_MD_endOne_7 : decode b_MD_endOne 7 = .ok (.getfield 119, 3) := by decide +kernel
theorem d_MD_endOne_10 : decode b_MD_endOne 10 = .ok (.iconst 1, 1) := by decide +kernel
theorem d_MD_endOne_11 : decode b_MD_endOne 11 = .ok (.iadd, 1) := by decide +kernel
theorem d_MD_endOne_12 : decode b_MD_endOne 12 = .ok (.putfield 119, 3) := by decide +kernel
theorem d_MD_endOne_15 : decode b_MD_endOne 15 = .ok (.aload_n 0, 1) := by decide +kernel
theorem d_MD_endOne_16 : decode b_MD_endOne 16 = .ok (.aload_n 0, 1) := by decide +kernel
theorem d_MD_endOne_17 : decode b_MD_endOne 17 = .ok (.getfield 116, 3) := by decide +kernel
theorem d_MD_endOne_20 : decode b_MD_endOne 20 = .ok (.putfield 78, 3) := by decide +kernel
theorem d_MD_endOne_23 : decode b_MD_endOne 23 = .ok (.aload_n 0, 1) := by decide +kernel
theorem d_MD_endOne_24 : decode b_MD_endOne 24 = .ok (.getfield 30, 3) := by decide +kernel
theorem d_MD_endOne_27 : decode b_MD_endOne 27 = .ok (.bipush 40, 2) := by decide +kernel
theorem d_MD_endOne_29 : decode b_MD_endOne 29 = .ok (.iaload, 1) := by decide +kernel
theorem d_MD_endOne_30 : decode b_MD_endOne 30 = .ok (.ifCond .ne 21, 3) := by decide +kernel
theorem d_MD_endOne_33 : decode b_MD_endOne 33 = .ok (.aload_n 0, 1) := by decide +kernel
theorem d_MD_endOne_34 : decode b_MD_endOne 34 = .ok (.aload_n 0, 1) := by decide +kernel
theorem d_MD_endOne_35 : decode b_MD_endOne 35 = .ok (.aload_n 0, 1) := by decide +kernel
theorem d_MD_endOne_36 : decode b_MD_endOne 36 = .ok (.getfield 33, 3) := by decide +kernel
theorem d_MD_endOne_39 : decode b_MD_endOne 39 = .ok (.bipush 40, 2) := by decide +kernel
theorem d_MD_endOne_41 : decode b_MD_endOne 41 = .ok (.iaload, 1) := by decide +kernel
theorem d_MD_endOne_42 : decode b_MD_endOne 42 = .ok (.invokevirtual 122, 3) := by decide +kernel
theorem d_MD_endOne_45 : decode b_MD_endOne 45 = .ok (.putfield 125, 3) := by decide +kernel
theorem d_MD_endOne_48 : decode b_MD_endOne 48 = .ok (.goto 73, 3) := by decide +kernel
theorem d_MD_endOne_51 : decode b_MD_endOne 51 = .ok (.aload_n 0, 1) := by decide +kernel
theorem d_MD_endOne_52 : decode b_MD_endOne 52 = .ok (.getfield 30, 3) := by decide +kernel
theorem d_MD_endOne_55 : decode b_MD_endOne 55 = .ok (.bipush 40, 2) := by decide +kernel
theorem d_MD_endOne_57 : decode b_MD_endOne 57 = .ok (.iaload, 1) := by decide +kernel
theorem d_MD_endOne_58 : decode b_MD_endOne 58 = .ok (.iconst 1, 1) := by decide +kernel
theorem d_MD_endOne_59 : decode b_MD_endOne 59 = .ok (.if_icmp .ne 24, 3) := by decide +kernel
theorem d_MD_endOne_62 : decode b_MD_endOne 62 = .ok (.aload_n 0, 1) := by decide +kernel
theorem d_MD_endOne_63 : decode b_MD_endOne 63 = .ok (.aload_n 0, 1) := by decide +kernel
theorem d_MD_endOne_64 : decode b_MD_endOne 64 = .ok (.getfield 33, 3) := by decide +kernel
theorem d_MD_endOne_67 : decode b_MD_endOne 67 = .ok (.bipush 40, 2) := by decide +kernel
theorem d_MD_endOne_69 : decode b_MD_endOne 69 = .ok (.iaload, 1) := by decide +kernel
theorem d_MD_endOne_70 : decode b_MD_endOne 70 = .ok (.aload_n 0, 1) := by decide +kernel
theorem d_MD_endOne_71 : decode b_MD_endOne 71 = .ok (.getfield 36, 3) := by decide +kernel
theorem d_MD_endOne_74 : decode b_MD_endOne 74 = .ok (.bipush 40, 2) := by decide +kernel
theorem d_MD_endOne_76 : decode b_MD_endOne 76 = .ok (.iaload, 1) := by decide +kernel
theorem d_MD_endOne_77 : decode b_MD_endOne 77 = .ok (.invokevirtual 128, 3) := by decide +kernel
theorem d_MD_endOne_80 : decode b_MD_endOne 80 = .ok (.goto 41, 3) := by decide +kernel
theorem d_MD_endOne_83 : decode b_MD_endOne 83 = .ok (.iconst 0, 1) := by decide +kernel
theorem d_MD_endOne_84 : decode b_MD_endOne 84 = .ok (.istore_n 1, 1) := by decide +kernel
theorem d_MD_endOne_85 : decode b_MD_endOne 85 = .ok (.iload_n 1, 1) := by decide +kernel
theorem d_MD_endOne_86 : decode b_MD_endOne 86 = .ok (.aload_n 0, 1) := by decide +kernel
theorem d_MD_endOne_87 : decode b_MD_endOne 87 = .ok (.getfield 113, 3) := by decide +kernel
theorem d_MD_endOne_90 : decode b_MD_endOne 90 = .ok (.if_icmp .ge 26, 3) := by decide +kernel
theorem d_MD_endOne_93 : decode b_MD_endOne 93 = .ok (.aload_n 0, 1) := by decide +kernel
theorem d_MD_endOne_94 : decode b_MD_endOne 94 = .ok (.getfield 13, 3) := by decide +kernel
theorem d_MD_endOne_97 : decode b_MD_endOne 97 = .ok (.aload_n 0, 1) := by decide +kernel
theorem d_MD_endOne_98 : decode b_MD_endOne 98 = .ok (.getfield 42, 3) := by decide +kernel
theorem d_MD_endOne_101 : decode b_MD_endOne 101 = .ok (.iload_n 1, 1) := by decide +kernel
theorem d_MD_endOne_102 : decode b_MD_endOne 102 = .ok (.iaload, 1) := by decide +kernel
theorem d_MD_endOne_103 : decode b_MD_endOne 103 = .ok (.aload_n 0, 1) := by decide +kernel
theorem d_MD_endOne_104 : decode b_MD_endOne 104 = .ok (.getfield 45, 3) := by decide +kernel
theorem d_MD_endOne_107 : decode b_MD_endOne 107 = .ok (.iload_n 1, 1) := by decide +kernel
theorem d_MD_endOne_108 : decode b_MD_endOne 108 = .ok (.iaload, 1) := by decide +kernel
theorem d_MD_endOne_109 : decode b_MD_endOne 109 = .ok (.iastore, 1) := by decide +kernel
theorem d_MD_endOne_110 : decode b_MD_endOne 110 = .ok (.iinc 1 1, 3) := by decide +kernel
theorem d_MD_endOne_113 : decode b_MD_endOne 113 = .ok (.goto (-28), 3) := by decide +kernel
theorem d_MD_endOne_116 : decode b_MD_endOne 116 = .ok (.aload_n 0, 1) := by decide +kernel
theorem d_MD_endOne_117 : decode b_MD_endOne 117 = .ok (.iconst 0, 1) := by decide +kernel
theorem d_MD_endOne_118 : decode b_MD_endOne 118 = .ok (.putfield 113, 3) := by decide +kernel
theorem d_MD_endOne_121 : decode b_MD_endOne 121 = .ok (.return_, 1) := by decide +kernel
theorem d_MD_init_0 : decode b_MD_init 0 = .ok (.aload_n 0, 1) := by decide +kernel
theorem d_MD_init_1 : decode b_MD_init 1 = .ok (.invokespecial 1, 3) := by decide +kernel
theorem d_MD_init_4 : decode b_MD_init 4 = .ok (.aload_n 0, 1) := by decide +kernel
theorem d_MD_init_5 : decode b_MD_init 5 = .ok (.iconst 3, 1) := by decide +kernel
theorem d_MD_init_6 : decode b_MD_init 6 = .ok (.putfield 7, 3) := by decide +kernel
theorem d_MD_init_9 : decode b_MD_init 9 = .ok (.aload_n 0, 1) := by decide +kernel
theorem d_MD_init_10 : decode b_MD_init 10 = .ok (.sipush 256, 3) := by decide +kernel
theorem d_MD_init_13 : decode b_MD_init 13 = .ok (.newarray .int, 2) := by decide +kernel
theorem d_MD_init_15 : decode b_MD_init 15 = .ok (.putfield 13, 3) := by decide +kernel
theorem d_MD_init_18 : decode b_MD_init 18 = .ok (.aload_n 0, 1) := by decide +kernel
theorem d_MD_init_19 : decode b_MD_init 19 = .ok (.bipush 11, 2) := by decide +kernel
theorem d_MD_init_21 : decode b_MD_init 21 = .ok (.newarray .int, 2) := by decide +kernel
theorem d_MD_init_23 : decode b_MD_init 23 = .ok (.putfield 17, 3) := by decide +kernel
theorem d_MD_init_26 : decode b_MD_init 26 = .ok (.aload_n 0, 1) := by decide +kernel
theorem d_MD_init_27 : decode b_MD_init 27 = .ok (.bipush 11, 2) := by decide +kernel
theorem d_MD_init_29 : decode b_MD_init 29 = .ok (.newarray .int, 2) := by decide +kernel
theorem d_MD_init_31 : decode b_MD_init 31 = .ok (.putfield 20, 3) := by decide +kernel
theorem d_MD_init_34 : decode b_MD_init 34 = .ok (.aload_n 0, 1) := by decide +kernel
theorem d_MD_init_35 : decode b_MD_init 35 = .ok (.bipush 11, 2) := by decide +kernel
theorem d_MD_init_37 : decode b_MD_init 37 = .ok (.newarray .boolean, 2) := by decide +kernel
theorem d_MD_init_39 : decode b_MD_init 39 = .ok (.putfield 23, 3) := by decide +kernel
theorem d_MD_init_42 : decode b_MD_init 42 = .ok (.aload_n 0, 1) := by decide +kernel
theorem d_MD_init_43 : decode b_MD_init 43 = .ok (.bipush 41, 2) := by decide +kernel
theorem d_MD_init_45 : decode b_MD_init 45 = .ok (.newarray .int, 2) := by decide +kernel
theorem d_MD_init_47 : decode b_MD_init 47 = .ok (.putfield 27, 3) := by decide +kernel
theorem d_MD_init_50 : decode b_MD_init 50 = .ok (.aload_n 0, 1) := by decide +kernel
theorem d_MD_init_51 : decode b_MD_init 51 = .ok (.bipush 41, 2) := by decide +kernel
theorem d_MD_init_53 : decode b_MD_init 53 = .ok (.newarray .int, 2) := by decide +kernel
theorem d_MD_init_55 : decode b_MD_init 55 = .ok (.putfield 30, 3) := by decide +kernel
theorem d_MD_init_58 : decode b_MD_init 58 = .ok (.aload_n 0, 1) := by decide +kernel
theorem d_MD_init_59 : decode b_MD_init 59 = .ok (.bipush 41, 2) := by decide +kernel
theorem d_MD_init_61 : decode b_MD_init 61 = .ok (.newarray .int, 2) := by decide +kernel
theorem d_MD_init_63 : decode b_MD_init 63 = .ok (.putfield 33, 3) := by decide +kernel
theorem d_MD_init_66 : decode b_MD_init 66 = .ok (.aload_n 0, 1) := by decide +kernel
theorem d_MD_init_67 : decode b_MD_init 67 = .ok (.bipush 41, 2) := by decide +kernel
theorem d_MD_init_69 : decode b_MD_init 69 = .ok (.newarray .int, 2) := by decide +kernel
theorem d_MD_init_71 : decode b_MD_init 71 = .ok (.putfield 36, 3) := by decide +kernel
theorem d_MD_init_74 : decode b_MD_init 74 = .ok (.aload_n 0, 1) := by decide +kernel
theorem d_MD_init_75 : decode b_MD_init 75 = .ok (.bipush 41, 2) := by decide +kernel
theorem d_MD_init_77 : decode b_MD_init 77 = .ok (.newarray .int, 2) := by decide +kernel
theorem d_MD_init_79 : decode b_MD_init 79 = .ok (.putfield 39, 3) := by decide +kernel
theorem d_MD_init_82 : decode b_MD_init 82 = .ok (.aload_n 0, 1) := by decide +kernel
theorem d_MD_init_83 : decode b_MD_init 83 = .ok (.bipush 8, 2) := by decide +kernel
theorem d_MD_init_85 : decode b_MD_init 85 = .ok (.newarray .int, 2) := by decide +kernel
theorem d_MD_init_87 : decode b_MD_init 87 = .ok (.putfield 42, 3) := by decide +kernel
theorem d_MD_init_90 : decode b_MD_init 90 = .ok (.aload_n 0, 1) := by decide +kernel
theorem d_MD_init_91 : decode b_MD_init 91 = .ok (.bipush 8, 2) := by decide +kernel
theorem d_MD_init_93 : decode b_MD_init 93 = .ok (.newarray .int, 2) := by decide +kernel
theorem d_MD_init_95 : decode b_MD_init 95 = .ok (.putfield 45, 3) := by decide +kernel
theorem d_MD_init_98 : decode b_MD_init 98 = .ok (.aload_n 0, 1) := by decide +kernel
theorem d_MD_init_99 : decode b_MD_init 99 = .ok (.iconst 1, 1) := by decide +kernel
theorem d_MD_init_100 : decode b_MD_init 100 = .ok (.putfield 48, 3) := by decide +kernel
theorem d_MD_init_103 : decode b_MD_init 103 = .ok (.return_, 1) := by decide +kernel
theorem d_MD_isBlock_0 : decode b_MD_isBlock 0 = .ok (.iload_n 0, 1) := by decide +kernel
theorem d_MD_isBlock_1 : decode b_MD_isBlock 1 = .ok (.ifCond .lt 14, 3) := by decide +kernel
theorem d_MD_isBlock_4 : decode b_MD_isBlock 4 = .ok (.iload_n 0, 1) := by decide +kernel
theorem d_MD_isBlock_5 : decode b_MD_isBlock 5 = .ok (.sipush 256, 3) := by decide +kernel
theorem d_MD_isBlock_8 : decode b_MD_isBlock 8 = .ok (.if_icmp .ge 7, 3) := by decide +kernel
theorem d_MD_isBlock_11 : decode b_MD_isBlock 11 = .ok (.iconst 1, 1) := by decide +kernel
theorem d_MD_isBlock_12 : decode b_MD_isBlock 12 = .ok (.goto 4, 3) := by decide +kernel
theorem d_MD_isBlock_15 : decode b_MD_isBlock 15 = .ok (.iconst 0, 1) := by decide +kernel
theorem d_MD_isBlock_16 : decode b_MD_isBlock 16 = .ok (.ireturn, 1) := by decide +kernel
theorem d_MD_isReady_0 : decode b_MD_isReady 0 = .ok (.iload_n 1, 1) := by decide +kernel
theorem d_MD_isReady_1 : decode b_MD_isReady 1 = .ok (.ifCond .eq 13, 3) := by decide +kernel
theorem d_MD_isReady_4 : decode b_MD_isReady 4 = .ok (.aload_n 0, 1) := by decide +kernel
theorem d_MD_isReady_5 : decode b_MD_isReady 5 = .ok (.getfield 30, 3) := by decide +kernel
theorem d_MD_isReady_8 : decode b_MD_isReady 8 = .ok (.iload_n 1, 1) := by decide +kernel
theorem d_MD_isReady_9 : decode b_MD_isReady 9 = .ok (.iaload, 1) := by decide +kernel
theorem d_MD_isReady_10 : decode b_MD_isReady 10 = .ok (.iconst 2, 1) := by decide +kernel
theorem d_MD_isReady_11 : decode b_MD_isReady 11 = .ok (.if_icmp .eq 7, 3) := by decide +kernel
theorem d_MD_isReady_14 : decode b_MD_isReady 14 = .ok (.iconst 1, 1) := by decide +kernel
theorem d_MD_isReady_15 : decode b_MD_isReady 15 = .ok (.goto 4, 3) := by decide +kernel
theorem d_MD_isReady_18 : decode b_MD_isReady 18 = .ok (.iconst 0, 1) := by decide +kernel
theorem d_MD_isReady_19 : decode b_MD_isReady 19 = .ok (.istore_n 2, 1) := by decide +kernel
theorem d_MD_isReady_20 : decode b_MD_isReady 20 = .ok (.iconst 0, 1) := by decide +kernel
theorem d_MD_isReady_21 : decode b_MD_isReady 21 = .ok (.istore_n 3, 1) := by decide +kernel
theorem d_MD_isReady_22 : decode b_MD_isReady 22 = .ok (.iload_n 3, 1) := by decide +kernel
theorem d_MD_isReady_23 : decode b_MD_isReady 23 = .ok (.iload_n 1, 1) := by decide +kernel
theorem d_MD_isReady_24 : decode b_MD_isReady 24 = .ok (.if_icmp .ge 44, 3) := by decide +kernel
theorem d_MD_isReady_27 : decode b_MD_isReady 27 = .ok (.iload_n 2, 1) := by decide +kernel
theorem d_MD_isReady_28 : decode b_MD_isReady 28 = .ok (.ifCond .eq 32, 3) := by decide +kernel
theorem d_MD_isReady_31 : decode b_MD_isReady 31 = .ok (.aload_n 0, 1) := by decide +kernel
theorem d_MD_isReady_32 : decode b_MD_isReady 32 = .ok (.getfield 30, 3) := by decide +kernel
theorem d_MD_isReady_35 : decode b_MD_isReady 35 = .ok (.iload_n 3, 1) := by decide +kernel
theorem d_MD_isReady_36 : decode b_MD_isReady 36 = .ok (.iaload, 1) := by decide +kernel
theorem d_MD_isReady_37 : decode b_MD_isReady 37 = .ok (.iconst 2, 1) := by decide +kernel
theorem d_MD_isReady_38 : decode b_MD_isReady 38 = .ok (.if_icmp .eq 22, 3) := by decide +kernel
theorem d_MD_isReady_41 : decode b_MD_isReady 41 = .ok (.aload_n 0, 1) := by decide +kernel
theorem d_MD_isReady_42 : decode b_MD_isReady 42 = .ok (.getfield 33, 3) := by decide +kernel
theorem d_MD_isReady_45 : decode b_MD_isReady 45 = .ok (.iload_n 3, 1) := by decide +kernel
theorem d_MD_isReady_46 : decode b_MD_isReady 46 = .ok (.iaload, 1) := by decide +kernel
theorem d_MD_isReady_47 : decode b_MD_isReady 47 = .ok (.aload_n 0, 1) := by decide +kernel
theorem d_MD_isReady_48 : decode b_MD_isReady 48 = .ok (.getfield 33, 3) := by decide +kernel
theorem d_MD_isReady_51 : decode b_MD_isReady 51 = .ok (.iload_n 1, 1) := by decide +kernel
theorem d_MD_isReady_52 : decode b_MD_isReady 52 = .ok (.iaload, 1) := by decide +kernel
theorem d_MD_isReady_53 : decode b_MD_isReady 53 = .ok (.if_icmp .eq 7, 3) := by decide +kernel
theorem d_MD_isReady_56 : decode b_MD_isReady 56 = .ok (.iconst 1, 1) := by decide +kernel
theorem d_MD_isReady_57 : decode b_MD_isReady 57 = .ok (.goto 4, 3) := by decide +kernel
theorem d_MD_isReady_60 : decode b_MD_isReady 60 = .ok (.iconst 0, 1) := by decide +kernel
theorem d_MD_isReady_61 : decode b_MD_isReady 61 = .ok (.istore_n 2, 1) := by decide +kernel
theorem d_MD_isReady_62 : decode b_MD_isReady 62 = .ok (.iinc 3 1, 3) := by decide +kernel
theorem d_MD_isReady_65 : decode b_MD_isReady 65 = .ok (.goto (-43), 3) := by decide +kernel
theorem d_MD_isReady_68 : decode b_MD_isReady 68 = .ok (.iload_n 2, 1) := by decide +kernel
theorem d_MD_isReady_69 : decode b_MD_isReady 69 = .ok (.ireturn, 1) := by decide +kernel
theorem d_MD_load_0 : decode b_MD_load 0 = .ok (.aload_n 0, 1) := by decide +kernel
theorem d_MD_load_1 : decode b_MD_load 1 = .ok (.iload_n 1, 1) := by decide +kernel
theorem d_MD_load_2 : decode b_MD_load 2 = .ok (.invokestatic 131, 3) := by decide +kernel
theorem d_MD_load_5 : decode b_MD_load 5 = .ok (.ifCond .ne 7, 3) := by decide +kernel
theorem d_MD_load_8 : decode b_MD_load 8 = .ok (.iconst 1, 1) := by decide +kernel
theorem d_MD_load_9 : decode b_MD_load 9 = .ok (.goto 19, 3) := by decide +kernel
theorem d_MD_load_12 : decode b_MD_load 12 = .ok (.aload_n 0, 1) := by decide +kernel
theorem d_MD_load_13 : decode b_MD_load 13 = .ok (.getfield 69, 3) := by decide +kernel
theorem d_MD_load_16 : decode b_MD_load 16 = .ok (.iconst 2, 1) := by decide +kernel
theorem d_MD_load_17 : decode b_MD_load 17 = .ok (.iadd, 1) := by decide +kernel
theorem d_MD_load_18 : decode b_MD_load 18 = .ok (.bipush 40, 2) := by decide +kernel
theorem d_MD_load_20 : decode b_MD_load 20 = .ok (.if_icmp .le 7, 3) := by decide +kernel
theorem d_MD_load_23 : decode b_MD_load 23 = .ok (.iconst 2, 1) := by decide +kernel
theorem d_MD_load_24 : decode b_MD_load 24 = .ok (.goto 4, 3) := by decide +kernel
theorem d_MD_load_27 : decode b_MD_load 27 = .ok (.iconst 0, 1) := by decide +kernel
theorem d_MD_load_28 : decode b_MD_load 28 = .ok (.putfield 52, 3) := by decide +kernel
theorem d_MD_load_31 : decode b_MD_load 31 = .ok (.aload_n 0, 1) := by decide +kernel
theorem d_MD_load_32 : decode b_MD_load 32 = .ok (.getfield 52, 3) := by decide +kernel
theorem d_MD_load_35 : decode b_MD_load 35 = .ok (.ifCond .le 5, 3) := by decide +kernel
theorem d_MD_load_38 : decode b_MD_load 38 = .ok (.iconst 0, 1) := by decide +kernel
theorem d_MD_load_39 : decode b_MD_load 39 = .ok (.ireturn, 1) := by decide +kernel
theorem d_MD_load_40 : decode b_MD_load 40 = .ok (.aload_n 0, 1) := by decide +kernel
theorem d_MD_load_41 : decode b_MD_load 41 = .ok (.iload_n 1, 1) := by decide +kernel
theorem d_MD_load_42 : decode b_MD_load 42 = .ok (.invokevirtual 134, 3) := by decide +kernel
theorem d_MD_load_45 : decode b_MD_load 45 = .ok (.istore_n 2, 1) := by decide +kernel
theorem d_MD_load_46 : decode b_MD_load 46 = .ok (.iload_n 2, 1) := by decide +kernel
theorem d_MD_load_47 : decode b_MD_load 47 = .ok (.ifCond .lt 43, 3) := by decide +kernel
theorem d_MD_load_50 : decode b_MD_load 50 = .ok (.aload_n 0, 1) := by decide +kernel
theorem d_MD_load_51 : decode b_MD_load 51 = .ok (.getfield 20, 3) := by decide +kernel
theorem d_MD_load_54 : decode b_MD_load 54 = .ok (.iload_n 2, 1) := by decide +kernel
theorem d_MD_load_55 : decode b_MD_load 55 = .ok (.iaload, 1) := by decide +kernel
theorem d_MD_load_56 : decode b_MD_load 56 = .ok (.istore_n 3, 1) := by decide +kernel
theorem d_MD_load_57 : decode b_MD_load 57 = .ok (.aload_n 0, 1) := by decide +kernel
theorem d_MD_load_58 : decode b_MD_load 58 = .ok (.getfield 23, 3) := by decide +kernel
theorem d_MD_load_61 : decode b_MD_load 61 = .ok (.iload_n 2, 1) := by decide +kernel
theorem d_MD_load_62 : decode b_MD_load 62 = .ok (.baload, 1) := by decide +kernel
theorem d_MD_load_63 : decode b_MD_load 63 = .ok (.istore 4, 2) := by decide +kernel
theorem d_MD_load_65 : decode b_MD_load 65 = .ok (.aload_n 0, 1) := by decide +kernel
theorem d_MD_load_66 : decode b_MD_load 66 = .ok (.dup, 1) := by decide +kernel
theorem d_MD_load_67 : decode b_MD_load 67 = .ok (.getfield 137, 3) := by decide +kernel
theorem d_MD_load_70 : decode b_MD_load 70 = .ok (.iconst 1, 1) := by decide +kernel
theorem d_MD_load_71 : decode b_MD_load 71 = .ok (.iadd, 1) := by decide +kernel
theorem d_MD_load_72 : decode b_MD_load 72 = .ok (.putfield 137, 3) := by decide +kernel
theorem d_MD_load_75 : decode b_MD_load 75 = .ok (.aload_n 0, 1) := by decide +kernel
theorem d_MD_load_76 : decode b_MD_load 76 = .ok (.iload_n 2, 1) := by decide +kernel
theorem d_MD_load_77 : decode b_MD_load 77 = .ok (.invokevirtual 58, 3) := by decide +kernel
theorem d_MD_load_80 : decode b_MD_load 80 = .ok (.aload_n 0, 1) := by decide +kernel
theorem d_MD_load_81 : decode b_MD_load 81 = .ok (.iload_n 1, 1) := by decide +kernel
theorem d_MD_load_82 : decode b_MD_load 82 = .ok (.iload_n 3, 1) := by decide +kernel
theorem d_MD_load_83 : decode b_MD_load 83 = .ok (.iload 4, 2) := by decide +kernel
theorem d_MD_load_85 : decode b_MD_load 85 = .ok (.invokevirtual 140, 3) := by decide +kernel
theorem d_MD_load_88 : decode b_MD_load 88 = .ok (.iload_n 3, 1) := by decide +kernel
theorem d_MD_load_89 : decode b_MD_load 89 = .ok (.ireturn, 1) := by decide +kernel
theorem d_MD_load_90 : decode b_MD_load 90 = .ok (.aload_n 0, 1) := by decide +kernel
theorem d_MD_load_91 : decode b_MD_load 91 = .ok (.dup, 1) := by decide +kernel
theorem d_MD_load_92 : decode b_MD_load 92 = .ok (.getfield 144, 3) := by decide +kernel
theorem d_MD_load_95 : decode b_MD_load 95 = .ok (.iconst 1, 1) := by decide +kernel
theorem d_MD_load_96 : decode b_MD_load 96 = .ok (.iadd, 1) := by decide +kernel
theorem d_MD_load_97 : decode b_MD_load 97 = .ok (.putfield 144, 3) := by decide +kernel
theorem d_MD_load_100 : decode b_MD_load 100 = .ok (.aload_n 0, 1) := by decide +kernel
theorem d_MD_load_101 : decode b_MD_load 101 = .ok (.invokevirtual 147, 3) := by decide +kernel
theorem d_MD_load_104 : decode b_MD_load 104 = .ok (.aload_n 0, 1) := by decide +kernel
theorem d_MD_load_105 : decode b_MD_load 105 = .ok (.getfield 75, 3) := by decide +kernel
theorem d_MD_load_108 : decode b_MD_load 108 = .ok (.istore_n 3, 1) := by decide +kernel
theorem d_MD_load_109 : decode b_MD_load 109 = .ok (.aload_n 0, 1) := by decide +kernel
theorem d_MD_load_110 : decode b_MD_load 110 = .ok (.iconst 0, 1) := by decide +kernel
theorem d_MD_load_111 : decode b_MD_load 111 = .ok (.iload_n 1, 1) := by decide +kernel
theorem d_MD_load_112 : decode b_MD_load 112 = .ok (.iconst 0, 1) := by decide +kernel
theorem d_MD_load_113 : decode b_MD_load 113 = .ok (.invokevirtual 65, 3) := by decide +kernel
theorem d_MD_load_116 : decode b_MD_load 116 = .ok (.iconst 0, 1) := by decide +kernel
theorem d_MD_load_117 : decode b_MD_load 117 = .ok (.istore 4, 2) := by decide +kernel
theorem d_MD_load_119 : decode b_MD_load 119 = .ok (.iload 4, 2) := by decide +kernel
theorem d_MD_load_121 : decode b_MD_load 121 = .ok (.ifCond .ne 39, 3) := by decide +kernel
theorem d_MD_load_124 : decode b_MD_load 124 = .ok (.aload_n 0, 1) := by decide +kernel
theorem d_MD_load_125 : decode b_MD_load 125 = .ok (.getfield 110, 3) := by decide +kernel
theorem d_MD_load_128 : decode b_MD_load 128 = .ok (.ifCond .ne 7, 3) := by decide +kernel
theorem d_MD_load_131 : decode b_MD_load 131 = .ok (.aload_n 0, 1) := by decide +kernel
theorem d_MD_load_132 : decode b_MD_load 132 = .ok (.invokevirtual 150, 3) := by decide +kernel
theorem d_MD_load_135 : decode b_MD_load 135 = .ok (.aload_n 0, 1) := by decide +kernel
theorem d_MD_load_136 : decode b_MD_load 136 = .ok (.invokevirtual 153, 3) := by decide +kernel
theorem d_MD_load_139 : decode b_MD_load 139 = .ok (.aload_n 0, 1) := by decide +kernel
theorem d_MD_load_140 : decode b_MD_load 140 = .ok (.getfield 27, 3) := by decide +kernel
theorem d_MD_load_143 : decode b_MD_load 143 = .ok (.bipush 40, 2) := by decide +kernel
theorem d_MD_load_145 : decode b_MD_load 145 = .ok (.iaload, 1) := by decide +kernel
theorem d_MD_load_146 : decode b_MD_load 146 = .ok (.iload_n 3, 1) := by decide +kernel
theorem d_MD_load_147 : decode b_MD_load 147 = .ok (.if_icmp .ne 7, 3) := by decide +kernel
theorem d_MD_load_150 : decode b_MD_load 150 = .ok (.iconst 1, 1) := by decide +kernel
theorem d_MD_load_151 : decode b_MD_load 151 = .ok (.goto 4, 3) := by decide +kernel
theorem d_MD_load_154 : decode b_MD_load 154 = .ok (.iconst 0, 1) := by decide +kernel
theorem d_MD_load_155 : decode b_MD_load 155 = .ok (.istore 4, 2) := by decide +kernel
theorem d_MD_load_157 : decode b_MD_load 157 = .ok (.goto (-38), 3) := by decide +kernel
theorem d_MD_load_160 : decode b_MD_load 160 = .ok (.aload_n 0, 1) := by decide +kernel
theorem d_MD_load_161 : decode b_MD_load 161 = .ok (.iload_n 1, 1) := by decide +kernel
theorem d_MD_load_162 : decode b_MD_load 162 = .ok (.aload_n 0, 1) := by decide +kernel
theorem d_MD_load_163 : decode b_MD_load 163 = .ok (.getfield 125, 3) := by decide +kernel
theorem d_MD_load_166 : decode b_MD_load 166 = .ok (.iconst 0, 1) := by decide +kernel
theorem d_MD_load_167 : decode b_MD_load 167 = .ok (.invokevirtual 140, 3) := by decide +kernel
theorem d_MD_load_170 : decode b_MD_load 170 = .ok (.aload_n 0, 1) := by decide +kernel
theorem d_MD_load_171 : decode b_MD_load 171 = .ok (.getfield 125, 3) := by decide +kernel
theorem d_MD_load_174 : decode b_MD_load 174 = .ok (.ireturn, 1) := by decide +kernel
theorem d_MD_lowest_0 : decode b_MD_lowest 0 = .ok (.iconst 0, 1) := by decide +kernel
theorem d_MD_lowest_1 : decode b_MD_lowest 1 = .ok (.istore_n 1, 1) := by decide +kernel
theorem d_MD_lowest_2 : decode b_MD_lowest 2 = .ok (.iconst 0, 1) := by decide +kernel
theorem d_MD_lowest_3 : decode b_MD_lowest 3 = .ok (.istore_n 2, 1) := by decide +kernel
theorem d_MD_lowest_4 : decode b_MD_lowest 4 = .ok (.iload_n 2, 1) := by decide +kernel
theorem d_MD_lowest_5 : decode b_MD_lowest 5 = .ok (.aload_n 0, 1) := by decide +kernel
theorem d_MD_lowest_6 : decode b_MD_lowest 6 = .ok (.getfield 69, 3) := by decide +kernel
theorem d_MD_lowest_9 : decode b_MD_lowest 9 = .ok (.if_icmp .ge 36, 3) := by decide +kernel
theorem d_MD_lowest_12 : decode b_MD_lowest 12 = .ok (.aload_n 0, 1) := by decide +kernel
theorem d_MD_lowest_13 : decode b_MD_lowest 13 = .ok (.iload_n 2, 1) := by decide +kernel
theorem d_MD_lowest_14 : decode b_MD_lowest 14 = .ok (.invokevirtual 88, 3) := by decide +kernel
theorem d_MD_lowest_17 : decode b_MD_lowest 17 = .ok (.ifCond .eq 20, 3) := by decide +kernel
theorem d_MD_lowest_20 : decode b_MD_lowest 20 = .ok (.aload_n 0, 1) := by decide +kernel
theorem d_MD_lowest_21 : decode b_MD_lowest 21 = .ok (.iload_n 2, 1) := by decide +kernel
theorem d_MD_lowest_22 : decode b_MD_lowest 22 = .ok (.invokevirtual 81, 3) := by decide +kernel
theorem d_MD_lowest_25 : decode b_MD_lowest 25 = .ok (.aload_n 0, 1) := by decide +kernel
theorem d_MD_lowest_26 : decode b_MD_lowest 26 = .ok (.iload_n 1, 1) := by decide +kernel
theorem d_MD_lowest_27 : decode b_MD_lowest 27 = .ok (.invokevirtual 81, 3) := by decide +kernel
theorem d_MD_lowest_30 : decode b_MD_lowest 30 = .ok (.if_icmp .ge 7, 3) := by decide +kernel
theorem d_MD_lowest_33 : decode b_MD_lowest 33 = .ok (.iload_n 2, 1) := by decide +kernel
theorem d_MD_lowest_34 : decode b_MD_lowest 34 = .ok (.goto 4, 3) := by decide +kernel
theorem d_MD_lowest_37 : decode b_MD_lowest 37 = .ok (.iload_n 1, 1) := by decide +kernel
theorem d_MD_lowest_38 : decode b_MD_lowest 38 = .ok (.istore_n 1, 1) := by decide +kernel
theorem d_MD_lowest_39 : decode b_MD_lowest 39 = .ok (.iinc 2 1, 3) := by decide +kernel
theorem d_MD_lowest_42 : decode b_MD_lowest 42 = .ok (.goto (-38), 3) := by decide +kernel
theorem d_MD_lowest_45 : decode b_MD_lowest 45 = .ok (.iload_n 1, 1) := by decide +kernel
theorem d_MD_lowest_46 : decode b_MD_lowest 46 = .ok (.ireturn, 1) := by decide +kernel
theorem d_MD_makeRoom_0 : decode b_MD_makeRoom 0 = .ok (.aload_n 0, 1) := by decide +kernel
theorem d_MD_makeRoom_1 : decode b_MD_makeRoom 1 = .ok (.getfield 55, 3) := by decide +kernel
theorem d_MD_makeRoom_4 : decode b_MD_makeRoom 4 = .ok (.bipush 10, 2) := by decide +kernel
theorem d_MD_makeRoom_6 : decode b_MD_makeRoom 6 = .ok (.if_icmp .ge 4, 3) := by decide +kernel
theorem d_MD_makeRoom_9 : decode b_MD_makeRoom 9 = .ok (.return_, 1) := by decide +kernel
theorem d_MD_makeRoom_10 : decode b_MD_makeRoom 10 = .ok (.aload_n 0, 1) := by decide +kernel
theorem d_MD_makeRoom_11 : decode b_MD_makeRoom 11 = .ok (.getfield 17, 3) := by decide +kernel
theorem d_MD_makeRoom_14 : decode b_MD_makeRoom 14 = .ok (.iconst 0, 1) := by decide +kernel
theorem d_MD_makeRoom_15 : decode b_MD_makeRoom 15 = .ok (.iaload, 1) := by decide +kernel
theorem d_MD_makeRoom_16 : decode b_MD_makeRoom 16 = .ok (.istore_n 1, 1) := by decide +kernel
theorem d_MD_makeRoom_17 : decode b_MD_makeRoom 17 = .ok (.aload_n 0, 1) := by decide +kernel
theorem d_MD_makeRoom_18 : decode b_MD_makeRoom 18 = .ok (.getfield 20, 3) := by decide +kernel
theorem d_MD_makeRoom_21 : decode b_MD_makeRoom 21 = .ok (.iconst 0, 1) := by decide +kernel
theorem d_MD_makeRoom_22 : decode b_MD_makeRoom 22 = .ok (.iaload, 1) := by decide +kernel
theorem d_MD_makeRoom_23 : decode b_MD_makeRoom 23 = .ok (.istore_n 2, 1) := by decide +kernel
theorem d_MD_makeRoom_24 : decode b_MD_makeRoom 24 = .ok (.aload_n 0, 1) := by decide +kernel
theorem d_MD_makeRoom_25 : decode b_MD_makeRoom 25 = .ok (.getfield 23, 3) := by decide +kernel
theorem d_MD_makeRoom_28 : decode b_MD_makeRoom 28 = .ok (.iconst 0, 1) := by decide +kernel
theorem d_MD_makeRoom_29 : decode b_MD_makeRoom 29 = .ok (.baload, 1) := by decide +kernel
theorem d_MD_makeRoom_30 : decode b_MD_makeRoom 30 = .ok (.istore_n 3, 1) := by decide +kernel
theorem d_MD_makeRoom_31 : decode b_MD_makeRoom 31 = .ok (.aload_n 0, 1) := by decide +kernel
theorem d_MD_makeRoom_32 : decode b_MD_makeRoom 32 = .ok (.iconst 0, 1) := by decide +kernel
theorem d_MD_makeRoom_33 : decode b_MD_makeRoom 33 = .ok (.invokevirtual 58, 3) := by decide +kernel
theorem d_MD_makeRoom_36 : decode b_MD_makeRoom 36 = .ok (.aload_n 0, 1) := by decide +kernel
theorem d_MD_makeRoom_37 : decode b_MD_makeRoom 37 = .ok (.dup, 1) := by decide +kernel
theorem d_MD_makeRoom_38 : decode b_MD_makeRoom 38 = .ok (.getfield 62, 3) := by decide +kernel
theorem d_MD_makeRoom_41 : decode b_MD_makeRoom 41 = .ok (.iconst 1, 1) := by decide +kernel
theorem d_MD_makeRoom_42 : decode b_MD_makeRoom 42 = .ok (.iadd, 1) := by decide +kernel
theorem d_MD_makeRoom_43 : decode b_MD_makeRoom 43 = .ok (.putfield 62, 3) := by decide +kernel
theorem d_MD_makeRoom_46 : decode b_MD_makeRoom 46 = .ok (.iload_n 3, 1) := by decide +kernel
theorem d_MD_makeRoom_47 : decode b_MD_makeRoom 47 = .ok (.ifCond .eq 10, 3) := by decide +kernel
theorem d_MD_makeRoom_50 : decode b_MD_makeRoom 50 = .ok (.aload_n 0, 1) := by decide +kernel
theorem d_MD_makeRoom_51 : decode b_MD_makeRoom 51 = .ok (.iconst 1, 1) := by decide +kernel
theorem d_MD_makeRoom_52 : decode b_MD_makeRoom 52 = .ok (.iload_n 1, 1) := by decide +kernel
theorem d_MD_makeRoom_53 : decode b_MD_makeRoom 53 = .ok (.iload_n 2, 1) := by decide +kernel
theorem d_MD_makeRoom_54 : decode b_MD_makeRoom 54 = .ok (.invokevirtual 65, 3) := by decide +kernel
theorem d_MD_makeRoom_57 : decode b_MD_makeRoom 57 = .ok (.return_, 1) := by decide +kernel
theorem d_MD_media_0 : decode b_MD_media 0 = .ok (.aload_n 0, 1) := by decide +kernel
theorem d_MD_media_1 : decode b_MD_media 1 = .ok (.iload_n 1, 1) := by decide +kernel
theorem d_MD_media_2 : decode b_MD_media 2 = .ok (.invokestatic 131, 3) := by decide +kernel
theorem d_MD_media_5 : decode b_MD_media 5 = .ok (.ifCond .eq 7, 3) := by decide +kernel
theorem d_MD_media_8 : decode b_MD_media 8 = .ok (.iconst 0, 1) := by decide +kernel
theorem d_MD_media_9 : decode b_MD_media 9 = .ok (.goto 4, 3) := by decide +kernel
theorem d_MD_media_12 : decode b_MD_media 12 = .ok (.iconst 1, 1) := by decide +kernel
theorem d_MD_media_13 : decode b_MD_media 13 = .ok (.putfield 52, 3) := by decide +kernel
theorem d_MD_media_16 : decode b_MD_media 16 = .ok (.aload_n 0, 1) := by decide +kernel
theorem d_MD_media_17 : decode b_MD_media 17 = .ok (.getfield 52, 3) := by decide +kernel
end
section
theorem d_MD_media_20 : decode b_MD_media 20 = .ok (.ifCond .le 7, 3) := by decide +kernel
theorem d_MD_media_23 : decode b_MD_media 23 = .ok (.iconst 0, 1) := by decide +kernel
theorem d_MD_media_24 : decode b_MD_media 24 = .ok (.goto 9, 3) := by decide +kernel
theorem d_MD_media_27 : decode b_MD_media 27 = .ok (.aload_n 0, 1) := by decide +kernel
theorem d_MD_media_28 : decode b_MD_media 28 = .ok (.getfield 13, 3) := by decide +kernel
theorem d_MD_media_31 : decode b_MD_media 31 = .ok (.iload_n 1, 1) := by decide +kernel
theorem d_MD_media_32 : decode b_MD_media 32 = .ok (.iaload, 1) := by decide +kernel
theorem d_MD_media_33 : decode b_MD_media 33 = .ok (.ireturn, 1) := by decide +kernel
theorem d_MD_nearest_0 : decode b_MD_nearest 0 = .ok (.iconst (-1), 1) := by decide +kernel
theorem d_MD_nearest_1 : decode b_MD_nearest 1 = .ok (.istore_n 2, 1) := by decide +kernel
theorem d_MD_nearest_2 : decode b_MD_nearest 2 = .ok (.iconst 0, 1) := by decide +kernel
theorem d_MD_nearest_3 : decode b_MD_nearest 3 = .ok (.istore_n 3, 1) := by decide +kernel
theorem d_MD_nearest_4 : decode b_MD_nearest 4 = .ok (.iload_n 3, 1) := by decide +kernel
theorem d_MD_nearest_5 : decode b_MD_nearest 5 = .ok (.aload_n 0, 1) := by decide +kernel
theorem d_MD_nearest_6 : decode b_MD_nearest 6 = .ok (.getfield 69, 3) := by decide +kernel
theorem d_MD_nearest_9 : decode b_MD_nearest 9 = .ok (.if_icmp .ge 63, 3) := by decide +kernel
theorem d_MD_nearest_12 : decode b_MD_nearest 12 = .ok (.aload_n 0, 1) := by decide +kernel
theorem d_MD_nearest_13 : decode b_MD_nearest 13 = .ok (.iload_n 3, 1) := by decide +kernel
theorem d_MD_nearest_14 : decode b_MD_nearest 14 = .ok (.invokevirtual 88, 3) := by decide +kernel
theorem d_MD_nearest_17 : decode b_MD_nearest 17 = .ok (.ifCond .eq 16, 3) := by decide +kernel
theorem d_MD_nearest_20 : decode b_MD_nearest 20 = .ok (.aload_n 0, 1) := by decide +kernel
theorem d_MD_nearest_21 : decode b_MD_nearest 21 = .ok (.iload_n 3, 1) := by decide +kernel
theorem d_MD_nearest_22 : decode b_MD_nearest 22 = .ok (.iload_n 1, 1) := by decide +kernel
theorem d_MD_nearest_23 : decode b_MD_nearest 23 = .ok (.invokevirtual 92, 3) := by decide +kernel
theorem d_MD_nearest_26 : decode b_MD_nearest 26 = .ok (.ifCond .lt 7, 3) := by decide +kernel
theorem d_MD_nearest_29 : decode b_MD_nearest 29 = .ok (.iconst 1, 1) := by decide +kernel
theorem d_MD_nearest_30 : decode b_MD_nearest 30 = .ok (.goto 4, 3) := by decide +kernel
theorem d_MD_nearest_33 : decode b_MD_nearest 33 = .ok (.iconst 0, 1) := by decide +kernel
theorem d_MD_nearest_34 : decode b_MD_nearest 34 = .ok (.istore 4, 2) := by decide +kernel
theorem d_MD_nearest_36 : decode b_MD_nearest 36 = .ok (.iload 4, 2) := by decide +kernel
theorem d_MD_nearest_38 : decode b_MD_nearest 38 = .ok (.ifCond .eq 26, 3) := by decide +kernel
theorem d_MD_nearest_41 : decode b_MD_nearest 41 = .ok (.iload_n 2, 1) := by decide +kernel
theorem d_MD_nearest_42 : decode b_MD_nearest 42 = .ok (.ifCond .lt 18, 3) := by decide +kernel
theorem d_MD_nearest_45 : decode b_MD_nearest 45 = .ok (.aload_n 0, 1) := by decide +kernel
theorem d_MD_nearest_46 : decode b_MD_nearest 46 = .ok (.iload_n 3, 1) := by decide +kernel
theorem d_MD_nearest_47 : decode b_MD_nearest 47 = .ok (.iload_n 1, 1) := by decide +kernel
theorem d_MD_nearest_48 : decode b_MD_nearest 48 = .ok (.invokevirtual 92, 3) := by decide +kernel
theorem d_MD_nearest_51 : decode b_MD_nearest 51 = .ok (.aload_n 0, 1) := by decide +kernel
theorem d_MD_nearest_52 : decode b_MD_nearest 52 = .ok (.iload_n 2, 1) := by decide +kernel
theorem d_MD_nearest_53 : decode b_MD_nearest 53 = .ok (.iload_n 1, 1) := by decide +kernel
theorem d_MD_nearest_54 : decode b_MD_nearest 54 = .ok (.invokevirtual 92, 3) := by decide +kernel
theorem d_MD_nearest_57 : decode b_MD_nearest 57 = .ok (.if_icmp .ge 7, 3) := by decide +kernel
theorem d_MD_nearest_60 : decode b_MD_nearest 60 = .ok (.iload_n 3, 1) := by decide +kernel
theorem d_MD_nearest_61 : decode b_MD_nearest 61 = .ok (.goto 4, 3) := by decide +kernel
theorem d_MD_nearest_64 : decode b_MD_nearest 64 = .ok (.iload_n 2, 1) := by decide +kernel
theorem d_MD_nearest_65 : decode b_MD_nearest 65 = .ok (.istore_n 2, 1) := by decide +kernel
theorem d_MD_nearest_66 : decode b_MD_nearest 66 = .ok (.iinc 3 1, 3) := by decide +kernel
theorem d_MD_nearest_69 : decode b_MD_nearest 69 = .ok (.goto (-65), 3) := by decide +kernel
theorem d_MD_nearest_72 : decode b_MD_nearest 72 = .ok (.iload_n 2, 1) := by decide +kernel
theorem d_MD_nearest_73 : decode b_MD_nearest 73 = .ok (.ireturn, 1) := by decide +kernel
theorem d_MD_newest_0 : decode b_MD_newest 0 = .ok (.aload_n 0, 1) := by decide +kernel
theorem d_MD_newest_1 : decode b_MD_newest 1 = .ok (.iload_n 1, 1) := by decide +kernel
theorem d_MD_newest_2 : decode b_MD_newest 2 = .ok (.invokestatic 131, 3) := by decide +kernel
theorem d_MD_newest_5 : decode b_MD_newest 5 = .ok (.ifCond .eq 7, 3) := by decide +kernel
theorem d_MD_newest_8 : decode b_MD_newest 8 = .ok (.iconst 0, 1) := by decide +kernel
theorem d_MD_newest_9 : decode b_MD_newest 9 = .ok (.goto 4, 3) := by decide +kernel
theorem d_MD_newest_12 : decode b_MD_newest 12 = .ok (.iconst 1, 1) := by decide +kernel
theorem d_MD_newest_13 : decode b_MD_newest 13 = .ok (.putfield 52, 3) := by decide +kernel
theorem d_MD_newest_16 : decode b_MD_newest 16 = .ok (.aload_n 0, 1) := by decide +kernel
theorem d_MD_newest_17 : decode b_MD_newest 17 = .ok (.getfield 52, 3) := by decide +kernel
theorem d_MD_newest_20 : decode b_MD_newest 20 = .ok (.ifCond .le 7, 3) := by decide +kernel
theorem d_MD_newest_23 : decode b_MD_newest 23 = .ok (.iconst 0, 1) := by decide +kernel
theorem d_MD_newest_24 : decode b_MD_newest 24 = .ok (.goto 8, 3) := by decide +kernel
theorem d_MD_newest_27 : decode b_MD_newest 27 = .ok (.aload_n 0, 1) := by decide +kernel
theorem d_MD_newest_28 : decode b_MD_newest 28 = .ok (.iload_n 1, 1) := by decide +kernel
theorem d_MD_newest_29 : decode b_MD_newest 29 = .ok (.invokevirtual 159, 3) := by decide +kernel
theorem d_MD_newest_32 : decode b_MD_newest 32 = .ok (.ireturn, 1) := by decide +kernel
theorem d_MD_newestOf_0 : decode b_MD_newestOf 0 = .ok (.aload_n 0, 1) := by decide +kernel
theorem d_MD_newestOf_1 : decode b_MD_newestOf 1 = .ok (.iload_n 1, 1) := by decide +kernel
theorem d_MD_newestOf_2 : decode b_MD_newestOf 2 = .ok (.invokevirtual 122, 3) := by decide +kernel
theorem d_MD_newestOf_5 : decode b_MD_newestOf 5 = .ok (.istore_n 2, 1) := by decide +kernel
theorem d_MD_newestOf_6 : decode b_MD_newestOf 6 = .ok (.aload_n 0, 1) := by decide +kernel
theorem d_MD_newestOf_7 : decode b_MD_newestOf 7 = .ok (.getfield 110, 3) := by decide +kernel
theorem d_MD_newestOf_10 : decode b_MD_newestOf 10 = .ok (.ifCond .eq 35, 3) := by decide +kernel
theorem d_MD_newestOf_13 : decode b_MD_newestOf 13 = .ok (.aload_n 0, 1) := by decide +kernel
theorem d_MD_newestOf_14 : decode b_MD_newestOf 14 = .ok (.getfield 30, 3) := by decide +kernel
theorem d_MD_newestOf_17 : decode b_MD_newestOf 17 = .ok (.bipush 40, 2) := by decide +kernel
theorem d_MD_newestOf_19 : decode b_MD_newestOf 19 = .ok (.iaload, 1) := by decide +kernel
theorem d_MD_newestOf_20 : decode b_MD_newestOf 20 = .ok (.iconst 1, 1) := by decide +kernel
theorem d_MD_newestOf_21 : decode b_MD_newestOf 21 = .ok (.if_icmp .ne 24, 3) := by decide +kernel
theorem d_MD_newestOf_24 : decode b_MD_newestOf 24 = .ok (.aload_n 0, 1) := by decide +kernel
theorem d_MD_newestOf_25 : decode b_MD_newestOf 25 = .ok (.getfield 33, 3) := by decide +kernel
theorem d_MD_newestOf_28 : decode b_MD_newestOf 28 = .ok (.bipush 40, 2) := by decide +kernel
theorem d_MD_newestOf_30 : decode b_MD_newestOf 30 = .ok (.iaload, 1) := by decide +kernel
theorem d_MD_newestOf_31 : decode b_MD_newestOf 31 = .ok (.iload_n 1, 1) := by decide +kernel
theorem d_MD_newestOf_32 : decode b_MD_newestOf 32 = .ok (.if_icmp .ne 13, 3) := by decide +kernel
theorem d_MD_newestOf_35 : decode b_MD_newestOf 35 = .ok (.aload_n 0, 1) := by decide +kernel
theorem d_MD_newestOf_36 : decode b_MD_newestOf 36 = .ok (.getfield 36, 3) := by decide +kernel
theorem d_MD_newestOf_39 : decode b_MD_newestOf 39 = .ok (.bipush 40, 2) := by decide +kernel
theorem d_MD_newestOf_41 : decode b_MD_newestOf 41 = .ok (.iaload, 1) := by decide +kernel
theorem d_MD_newestOf_42 : decode b_MD_newestOf 42 = .ok (.goto 4, 3) := by decide +kernel
theorem d_MD_newestOf_45 : decode b_MD_newestOf 45 = .ok (.iload_n 2, 1) := by decide +kernel
theorem d_MD_newestOf_46 : decode b_MD_newestOf 46 = .ok (.istore_n 2, 1) := by decide +kernel
theorem d_MD_newestOf_47 : decode b_MD_newestOf 47 = .ok (.iconst 0, 1) := by decide +kernel
theorem d_MD_newestOf_48 : decode b_MD_newestOf 48 = .ok (.istore_n 3, 1) := by decide +kernel
theorem d_MD_newestOf_49 : decode b_MD_newestOf 49 = .ok (.iload_n 3, 1) := by decide +kernel
theorem d_MD_newestOf_50 : decode b_MD_newestOf 50 = .ok (.aload_n 0, 1) := by decide +kernel
theorem d_MD_newestOf_51 : decode b_MD_newestOf 51 = .ok (.getfield 69, 3) := by decide +kernel
theorem d_MD_newestOf_54 : decode b_MD_newestOf 54 = .ok (.if_icmp .ge 40, 3) := by decide +kernel
theorem d_MD_newestOf_57 : decode b_MD_newestOf 57 = .ok (.aload_n 0, 1) := by decide +kernel
theorem d_MD_newestOf_58 : decode b_MD_newestOf 58 = .ok (.getfield 30, 3) := by decide +kernel
theorem d_MD_newestOf_61 : decode b_MD_newestOf 61 = .ok (.iload_n 3, 1) := by decide +kernel
theorem d_MD_newestOf_62 : decode b_MD_newestOf 62 = .ok (.iaload, 1) := by decide +kernel
theorem d_MD_newestOf_63 : decode b_MD_newestOf 63 = .ok (.iconst 1, 1) := by decide +kernel
theorem d_MD_newestOf_64 : decode b_MD_newestOf 64 = .ok (.if_icmp .ne 22, 3) := by decide +kernel
theorem d_MD_newestOf_67 : decode b_MD_newestOf 67 = .ok (.aload_n 0, 1) := by decide +kernel
theorem d_MD_newestOf_68 : decode b_MD_newestOf 68 = .ok (.getfield 33, 3) := by decide +kernel
theorem d_MD_newestOf_71 : decode b_MD_newestOf 71 = .ok (.iload_n 3, 1) := by decide +kernel
theorem d_MD_newestOf_72 : decode b_MD_newestOf 72 = .ok (.iaload, 1) := by decide +kernel
theorem d_MD_newestOf_73 : decode b_MD_newestOf 73 = .ok (.iload_n 1, 1) := by decide +kernel
theorem d_MD_newestOf_74 : decode b_MD_newestOf 74 = .ok (.if_icmp .ne 12, 3) := by decide +kernel
theorem d_MD_newestOf_77 : decode b_MD_newestOf 77 = .ok (.aload_n 0, 1) := by decide +kernel
theorem d_MD_newestOf_78 : decode b_MD_newestOf 78 = .ok (.getfield 36, 3) := by decide +kernel
theorem d_MD_newestOf_81 : decode b_MD_newestOf 81 = .ok (.iload_n 3, 1) := by decide +kernel
theorem d_MD_newestOf_82 : decode b_MD_newestOf 82 = .ok (.iaload, 1) := by decide +kernel
theorem d_MD_newestOf_83 : decode b_MD_newestOf 83 = .ok (.goto 4, 3) := by decide +kernel
theorem d_MD_newestOf_86 : decode b_MD_newestOf 86 = .ok (.iload_n 2, 1) := by decide +kernel
theorem d_MD_newestOf_87 : decode b_MD_newestOf 87 = .ok (.istore_n 2, 1) := by decide +kernel
theorem d_MD_newestOf_88 : decode b_MD_newestOf 88 = .ok (.iinc 3 1, 3) := by decide +kernel
theorem d_MD_newestOf_91 : decode b_MD_newestOf 91 = .ok (.goto (-42), 3) := by decide +kernel
theorem d_MD_newestOf_94 : decode b_MD_newestOf 94 = .ok (.aload_n 0, 1) := by decide +kernel
theorem d_MD_newestOf_95 : decode b_MD_newestOf 95 = .ok (.iload_n 1, 1) := by decide +kernel
theorem d_MD_newestOf_96 : decode b_MD_newestOf 96 = .ok (.invokevirtual 134, 3) := by decide +kernel
theorem d_MD_newestOf_99 : decode b_MD_newestOf 99 = .ok (.istore_n 3, 1) := by decide +kernel
theorem d_MD_newestOf_100 : decode b_MD_newestOf 100 = .ok (.iload_n 3, 1) := by decide +kernel
theorem d_MD_newestOf_101 : decode b_MD_newestOf 101 = .ok (.ifCond .ge 7, 3) := by decide +kernel
theorem d_MD_newestOf_104 : decode b_MD_newestOf 104 = .ok (.iload_n 2, 1) := by decide +kernel
theorem d_MD_newestOf_105 : decode b_MD_newestOf 105 = .ok (.goto 9, 3) := by decide +kernel
theorem d_MD_newestOf_108 : decode b_MD_newestOf 108 = .ok (.aload_n 0, 1) := by decide +kernel
theorem d_MD_newestOf_109 : decode b_MD_newestOf 109 = .ok (.getfield 20, 3) := by decide +kernel
theorem d_MD_newestOf_112 : decode b_MD_newestOf 112 = .ok (.iload_n 3, 1) := by decide +kernel
theorem d_MD_newestOf_113 : decode b_MD_newestOf 113 = .ok (.iaload, 1) := by decide +kernel
theorem d_MD_newestOf_114 : decode b_MD_newestOf 114 = .ok (.ireturn, 1) := by decide +kernel
theorem d_MD_policy_0 : decode b_MD_policy 0 = .ok (.aload_n 0, 1) := by decide +kernel
theorem d_MD_policy_1 : decode b_MD_policy 1 = .ok (.iload_n 1, 1) := by decide +kernel
theorem d_MD_policy_2 : decode b_MD_policy 2 = .ok (.ifCond .lt 8, 3) := by decide +kernel
theorem d_MD_policy_5 : decode b_MD_policy 5 = .ok (.iload_n 1, 1) := by decide +kernel
theorem d_MD_policy_6 : decode b_MD_policy 6 = .ok (.iconst 4, 1) := by decide +kernel
theorem d_MD_policy_7 : decode b_MD_policy 7 = .ok (.if_icmp .le 7, 3) := by decide +kernel
theorem d_MD_policy_10 : decode b_MD_policy 10 = .ok (.iconst 1, 1) := by decide +kernel
theorem d_MD_policy_11 : decode b_MD_policy 11 = .ok (.goto 4, 3) := by decide +kernel
theorem d_MD_policy_14 : decode b_MD_policy 14 = .ok (.iconst 0, 1) := by decide +kernel
theorem d_MD_policy_15 : decode b_MD_policy 15 = .ok (.putfield 52, 3) := by decide +kernel
theorem d_MD_policy_18 : decode b_MD_policy 18 = .ok (.aload_n 0, 1) := by decide +kernel
theorem d_MD_policy_19 : decode b_MD_policy 19 = .ok (.getfield 52, 3) := by decide +kernel
theorem d_MD_policy_22 : decode b_MD_policy 22 = .ok (.ifCond .le 5, 3) := by decide +kernel
theorem d_MD_policy_25 : decode b_MD_policy 25 = .ok (.iconst 0, 1) := by decide +kernel
theorem d_MD_policy_26 : decode b_MD_policy 26 = .ok (.ireturn, 1) := by decide +kernel
theorem d_MD_policy_27 : decode b_MD_policy 27 = .ok (.aload_n 0, 1) := by decide +kernel
theorem d_MD_policy_28 : decode b_MD_policy 28 = .ok (.getfield 7, 3) := by decide +kernel
theorem d_MD_policy_31 : decode b_MD_policy 31 = .ok (.istore_n 2, 1) := by decide +kernel
theorem d_MD_policy_32 : decode b_MD_policy 32 = .ok (.aload_n 0, 1) := by decide +kernel
theorem d_MD_policy_33 : decode b_MD_policy 33 = .ok (.iload_n 1, 1) := by decide +kernel
theorem d_MD_policy_34 : decode b_MD_policy 34 = .ok (.putfield 7, 3) := by decide +kernel
theorem d_MD_policy_37 : decode b_MD_policy 37 = .ok (.iload_n 2, 1) := by decide +kernel
theorem d_MD_policy_38 : decode b_MD_policy 38 = .ok (.ireturn, 1) := by decide +kernel
theorem d_MD_putLast_0 : decode b_MD_putLast 0 = .ok (.aload_n 0, 1) := by decide +kernel
theorem d_MD_putLast_1 : decode b_MD_putLast 1 = .ok (.getfield 17, 3) := by decide +kernel
theorem d_MD_putLast_4 : decode b_MD_putLast 4 = .ok (.aload_n 0, 1) := by decide +kernel
theorem d_MD_putLast_5 : decode b_MD_putLast 5 = .ok (.getfield 55, 3) := by decide +kernel
theorem d_MD_putLast_8 : decode b_MD_putLast 8 = .ok (.iload_n 1, 1) := by decide +kernel
theorem d_MD_putLast_9 : decode b_MD_putLast 9 = .ok (.iastore, 1) := by decide +kernel
theorem d_MD_putLast_10 : decode b_MD_putLast 10 = .ok (.aload_n 0, 1) := by decide +kernel
theorem d_MD_putLast_11 : decode b_MD_putLast 11 = .ok (.getfield 20, 3) := by decide +kernel
theorem d_MD_putLast_14 : decode b_MD_putLast 14 = .ok (.aload_n 0, 1) := by decide +kernel
theorem d_MD_putLast_15 : decode b_MD_putLast 15 = .ok (.getfield 55, 3) := by decide +kernel
theorem d_MD_putLast_18 : decode b_MD_putLast 18 = .ok (.iload_n 2, 1) := by decide +kernel
theorem d_MD_putLast_19 : decode b_MD_putLast 19 = .ok (.iastore, 1) := by decide +kernel
theorem d_MD_putLast_20 : decode b_MD_putLast 20 = .ok (.aload_n 0, 1) := by decide +kernel
theorem d_MD_putLast_21 : decode b_MD_putLast 21 = .ok (.getfield 23, 3) := by decide +kernel
theorem d_MD_putLast_24 : decode b_MD_putLast 24 = .ok (.aload_n 0, 1) := by decide +kernel
theorem d_MD_putLast_25 : decode b_MD_putLast 25 = .ok (.getfield 55, 3) := by decide +kernel
theorem d_MD_putLast_28 : decode b_MD_putLast 28 = .ok (.iload_n 3, 1) := by decide +kernel
theorem d_MD_putLast_29 : decode b_MD_putLast 29 = .ok (.bastore, 1) := by decide +kernel
theorem d_MD_putLast_30 : decode b_MD_putLast 30 = .ok (.aload_n 0, 1) := by decide +kernel
theorem d_MD_putLast_31 : decode b_MD_putLast 31 = .ok (.dup, 1) := by decide +kernel
theorem d_MD_putLast_32 : decode b_MD_putLast 32 = .ok (.getfield 55, 3) := by decide +kernel
theorem d_MD_putLast_35 : decode b_MD_putLast 35 = .ok (.iconst 1, 1) := by decide +kernel
theorem d_MD_putLast_36 : decode b_MD_putLast 36 = .ok (.iadd, 1) := by decide +kernel
theorem d_MD_putLast_37 : decode b_MD_putLast 37 = .ok (.putfield 55, 3) := by decide +kernel
theorem d_MD_putLast_40 : decode b_MD_putLast 40 = .ok (.return_, 1) := by decide +kernel
theorem d_MD_queued_0 : decode b_MD_queued 0 = .ok (.aload_n 0, 1) := by decide +kernel
theorem d_MD_queued_1 : decode b_MD_queued 1 = .ok (.iconst 0, 1) := by decide +kernel
theorem d_MD_queued_2 : decode b_MD_queued 2 = .ok (.putfield 52, 3) := by decide +kernel
theorem d_MD_queued_5 : decode b_MD_queued 5 = .ok (.iload_n 1, 1) := by decide +kernel
theorem d_MD_queued_6 : decode b_MD_queued 6 = .ok (.ifCond .lt 11, 3) := by decide +kernel
theorem d_MD_queued_9 : decode b_MD_queued 9 = .ok (.iload_n 1, 1) := by decide +kernel
theorem d_MD_queued_10 : decode b_MD_queued 10 = .ok (.aload_n 0, 1) := by decide +kernel
theorem d_MD_queued_11 : decode b_MD_queued 11 = .ok (.getfield 69, 3) := by decide +kernel
theorem d_MD_queued_14 : decode b_MD_queued 14 = .ok (.if_icmp .lt 7, 3) := by decide +kernel
theorem d_MD_queued_17 : decode b_MD_queued 17 = .ok (.iconst (-1), 1) := by decide +kernel
theorem d_MD_queued_18 : decode b_MD_queued 18 = .ok (.goto 9, 3) := by decide +kernel
theorem d_MD_queued_21 : decode b_MD_queued 21 = .ok (.aload_n 0, 1) := by decide +kernel
theorem d_MD_queued_22 : decode b_MD_queued 22 = .ok (.getfield 27, 3) := by decide +kernel
theorem d_MD_queued_25 : decode b_MD_queued 25 = .ok (.iload_n 1, 1) := by decide +kernel
theorem d_MD_queued_26 : decode b_MD_queued 26 = .ok (.iaload, 1) := by decide +kernel
theorem d_MD_queued_27 : decode b_MD_queued 27 = .ok (.ireturn, 1) := by decide +kernel
theorem d_MD_request_0 : decode b_MD_request 0 = .ok (.aload_n 0, 1) := by decide +kernel
theorem d_MD_request_1 : decode b_MD_request 1 = .ok (.iconst 0, 1) := by decide +kernel
theorem d_MD_request_2 : decode b_MD_request 2 = .ok (.putfield 52, 3) := by decide +kernel
theorem d_MD_request_5 : decode b_MD_request 5 = .ok (.aload_n 0, 1) := by decide +kernel
theorem d_MD_request_6 : decode b_MD_request 6 = .ok (.getfield 110, 3) := by decide +kernel
theorem d_MD_request_9 : decode b_MD_request 9 = .ok (.ifCond .eq 19, 3) := by decide +kernel
theorem d_MD_request_12 : decode b_MD_request 12 = .ok (.aload_n 0, 1) := by decide +kernel
theorem d_MD_request_13 : decode b_MD_request 13 = .ok (.getfield 27, 3) := by decide +kernel
theorem d_MD_request_16 : decode b_MD_request 16 = .ok (.bipush 40, 2) := by decide +kernel
theorem d_MD_request_18 : decode b_MD_request 18 = .ok (.iaload, 1) := by decide +kernel
theorem d_MD_request_19 : decode b_MD_request 19 = .ok (.iload_n 1, 1) := by decide +kernel
theorem d_MD_request_20 : decode b_MD_request 20 = .ok (.if_icmp .ne 8, 3) := by decide +kernel
theorem d_MD_request_23 : decode b_MD_request 23 = .ok (.bipush 40, 2) := by decide +kernel
theorem d_MD_request_25 : decode b_MD_request 25 = .ok (.goto 4, 3) := by decide +kernel
theorem d_MD_request_28 : decode b_MD_request 28 = .ok (.iconst (-1), 1) := by decide +kernel
theorem d_MD_request_29 : decode b_MD_request 29 = .ok (.istore_n 3, 1) := by decide +kernel
theorem d_MD_request_30 : decode b_MD_request 30 = .ok (.iconst 0, 1) := by decide +kernel
theorem d_MD_request_31 : decode b_MD_request 31 = .ok (.istore 4, 2) := by decide +kernel
theorem d_MD_request_33 : decode b_MD_request 33 = .ok (.iload 4, 2) := by decide +kernel
theorem d_MD_request_35 : decode b_MD_request 35 = .ok (.aload_n 0, 1) := by decide +kernel
theorem d_MD_request_36 : decode b_MD_request 36 = .ok (.getfield 69, 3) := by decide +kernel
theorem d_MD_request_39 : decode b_MD_request 39 = .ok (.if_icmp .ge 27, 3) := by decide +kernel
theorem d_MD_request_42 : decode b_MD_request 42 = .ok (.aload_n 0, 1) := by decide +kernel
theorem d_MD_request_43 : decode b_MD_request 43 = .ok (.getfield 27, 3) := by decide +kernel
theorem d_MD_request_46 : decode b_MD_request 46 = .ok (.iload 4, 2) := by decide +kernel
theorem d_MD_request_48 : decode b_MD_request 48 = .ok (.iaload, 1) := by decide +kernel
theorem d_MD_request_49 : decode b_MD_request 49 = .ok (.iload_n 1, 1) := by decide +kernel
theorem d_MD_request_50 : decode b_MD_request 50 = .ok (.if_icmp .ne 8, 3) := by decide +kernel
theorem d_MD_request_53 : decode b_MD_request 53 = .ok (.iload 4, 2) := by decide +kernel
theorem d_MD_request_55 : decode b_MD_request 55 = .ok (.goto 4, 3) := by decide +kernel
theorem d_MD_request_58 : decode b_MD_request 58 = .ok (.iload_n 3, 1) := by decide +kernel
theorem d_MD_request_59 : decode b_MD_request 59 = .ok (.istore_n 3, 1) := by decide +kernel
theorem d_MD_request_60 : decode b_MD_request 60 = .ok (.iinc 4 1, 3) := by decide +kernel
theorem d_MD_request_63 : decode b_MD_request 63 = .ok (.goto (-30), 3) := by decide +kernel
theorem d_MD_request_66 : decode b_MD_request 66 = .ok (.iload_n 3, 1) := by decide +kernel
theorem d_MD_request_67 : decode b_MD_request 67 = .ok (.ifCond .ge 5, 3) := by decide +kernel
theorem d_MD_request_70 : decode b_MD_request 70 = .ok (.iconst (-1), 1) := by decide +kernel
theorem d_MD_request_71 : decode b_MD_request 71 = .ok (.ireturn, 1) := by decide +kernel
theorem d_MD_request_72 : decode b_MD_request 72 = .ok (.iload_n 2, 1) := by decide +kernel
theorem d_MD_request_73 : decode b_MD_request 73 = .ok (.tableswitch 73 0 3 #[31, 38, 45, 66], 31) := by decide +kernel
theorem d_MD_request_104 : decode b_MD_request 104 = .ok (.aload_n 0, 1) := by decide +kernel
theorem d_MD_request_105 : decode b_MD_request 105 = .ok (.getfield 30, 3) := by decide +kernel
theorem d_MD_request_108 : decode b_MD_request 108 = .ok (.iload_n 3, 1) := by decide +kernel
theorem d_MD_request_109 : decode b_MD_request 109 = .ok (.iaload, 1) := by decide +kernel
theorem d_MD_request_110 : decode b_MD_request 110 = .ok (.ireturn, 1) := by decide +kernel
theorem d_MD_request_111 : decode b_MD_request 111 = .ok (.aload_n 0, 1) := by decide +kernel
theorem d_MD_request_112 : decode b_MD_request 112 = .ok (.getfield 33, 3) := by decide +kernel
theorem d_MD_request_115 : decode b_MD_request 115 = .ok (.iload_n 3, 1) := by decide +kernel
theorem d_MD_request_116 : decode b_MD_request 116 = .ok (.iaload, 1) := by decide +kernel
theorem d_MD_request_117 : decode b_MD_request 117 = .ok (.ireturn, 1) := by decide +kernel
theorem d_MD_request_118 : decode b_MD_request 118 = .ok (.aload_n 0, 1) := by decide +kernel
theorem d_MD_request_119 : decode b_MD_request 119 = .ok (.getfield 30, 3) := by decide +kernel
theorem d_MD_request_122 : decode b_MD_request 122 = .ok (.iload_n 3, 1) := by decide +kernel
theorem d_MD_request_123 : decode b_MD_request 123 = .ok (.iaload, 1) := by decide +kernel
theorem d_MD_request_124 : decode b_MD_request 124 = .ok (.iconst 1, 1) := by decide +kernel
theorem d_MD_request_125 : decode b_MD_request 125 = .ok (.if_icmp .ne 12, 3) := by decide +kernel
theorem d_MD_request_128 : decode b_MD_request 128 = .ok (.aload_n 0, 1) := by decide +kernel
theorem d_MD_request_129 : decode b_MD_request 129 = .ok (.getfield 36, 3) := by decide +kernel
theorem d_MD_request_132 : decode b_MD_request 132 = .ok (.iload_n 3, 1) := by decide +kernel
theorem d_MD_request_133 : decode b_MD_request 133 = .ok (.iaload, 1) := by decide +kernel
theorem d_MD_request_134 : decode b_MD_request 134 = .ok (.goto 4, 3) := by decide +kernel
theorem d_MD_request_137 : decode b_MD_request 137 = .ok (.iconst 0, 1) := by decide +kernel
theorem d_MD_request_138 : decode b_MD_request 138 = .ok (.ireturn, 1) := by decide +kernel
theorem d_MD_request_139 : decode b_MD_request 139 = .ok (.aload_n 0, 1) := by decide +kernel
theorem d_MD_request_140 : decode b_MD_request 140 = .ok (.getfield 39, 3) := by decide +kernel
theorem d_MD_request_143 : decode b_MD_request 143 = .ok (.iload_n 3, 1) := by decide +kernel
theorem d_MD_request_144 : decode b_MD_request 144 = .ok (.iaload, 1) := by decide +kernel
theorem d_MD_request_145 : decode b_MD_request 145 = .ok (.ireturn, 1) := by decide +kernel
theorem d_MD_request_146 : decode b_MD_request 146 = .ok (.iconst (-1), 1) := by decide +kernel
theorem d_MD_request_147 : decode b_MD_request 147 = .ok (.ireturn, 1) := by decide +kernel
theorem d_MD_save_0 : decode b_MD_save 0 = .ok (.aload_n 0, 1) := by decide +kernel
theorem d_MD_save_1 : decode b_MD_save 1 = .ok (.iload_n 1, 1) := by decide +kernel
theorem d_MD_save_2 : decode b_MD_save 2 = .ok (.invokestatic 131, 3) := by decide +kernel
theorem d_MD_save_5 : decode b_MD_save 5 = .ok (.ifCond .ne 7, 3) := by decide +kernel
theorem d_MD_save_8 : decode b_MD_save 8 = .ok (.iconst 1, 1) := by decide +kernel
theorem d_MD_save_9 : decode b_MD_save 9 = .ok (.goto 19, 3) := by decide +kernel
theorem d_MD_save_12 : decode b_MD_save 12 = .ok (.aload_n 0, 1) := by decide +kernel
theorem d_MD_save_13 : decode b_MD_save 13 = .ok (.getfield 69, 3) := by decide +kernel
theorem d_MD_save_16 : decode b_MD_save 16 = .ok (.iconst 2, 1) := by decide +kernel
theorem d_MD_save_17 : decode b_MD_save 17 = .ok (.iadd, 1) := by decide +kernel
theorem d_MD_save_18 : decode b_MD_save 18 = .ok (.bipush 40, 2) := by decide +kernel
theorem d_MD_save_20 : decode b_MD_save 20 = .ok (.if_icmp .le 7, 3) := by decide +kernel
theorem d_MD_save_23 : decode b_MD_save 23 = .ok (.iconst 2, 1) := by decide +kernel
theorem d_MD_save_24 : decode b_MD_save 24 = .ok (.goto 4, 3) := by decide +kernel
theorem d_MD_save_27 : decode b_MD_save 27 = .ok (.iconst 0, 1) := by decide +kernel
theorem d_MD_save_28 : decode b_MD_save 28 = .ok (.putfield 52, 3) := by decide +kernel
theorem d_MD_save_31 : decode b_MD_save 31 = .ok (.aload_n 0, 1) := by decide +kernel
theorem d_MD_save_32 : decode b_MD_save 32 = .ok (.getfield 52, 3) := by decide +kernel
theorem d_MD_save_35 : decode b_MD_save 35 = .ok (.ifCond .le 5, 3) := by decide +kernel
theorem d_MD_save_38 : decode b_MD_save 38 = .ok (.iconst 0, 1) := by decide +kernel
theorem d_MD_save_39 : decode b_MD_save 39 = .ok (.ireturn, 1) := by decide +kernel
theorem d_MD_save_40 : decode b_MD_save 40 = .ok (.aload_n 0, 1) := by decide +kernel
theorem d_MD_save_41 : decode b_MD_save 41 = .ok (.iload_n 1, 1) := by decide +kernel
theorem d_MD_save_42 : decode b_MD_save 42 = .ok (.invokevirtual 134, 3) := by decide +kernel
theorem d_MD_save_45 : decode b_MD_save 45 = .ok (.istore_n 3, 1) := by decide +kernel
theorem d_MD_save_46 : decode b_MD_save 46 = .ok (.iload_n 3, 1) := by decide +kernel
theorem d_MD_save_47 : decode b_MD_save 47 = .ok (.ifCond .ge 7, 3) := by decide +kernel
theorem d_MD_save_50 : decode b_MD_save 50 = .ok (.iconst 0, 1) := by decide +kernel
theorem d_MD_save_51 : decode b_MD_save 51 = .ok (.goto 9, 3) := by decide +kernel
theorem d_MD_save_54 : decode b_MD_save 54 = .ok (.aload_n 0, 1) := by decide +kernel
theorem d_MD_save_55 : decode b_MD_save 55 = .ok (.getfield 20, 3) := by decide +kernel
theorem d_MD_save_58 : decode b_MD_save 58 = .ok (.iload_n 3, 1) := by decide +kernel
theorem d_MD_save_59 : decode b_MD_save 59 = .ok (.iaload, 1) := by decide +kernel
theorem d_MD_save_60 : decode b_MD_save 60 = .ok (.istore 4, 2) := by decide +kernel
theorem d_MD_save_62 : decode b_MD_save 62 = .ok (.iload_n 3, 1) := by decide +kernel
theorem d_MD_save_63 : decode b_MD_save 63 = .ok (.ifCond .ge 10, 3) := by decide +kernel
theorem d_MD_save_66 : decode b_MD_save 66 = .ok (.aload_n 0, 1) := by decide +kernel
theorem d_MD_save_67 : decode b_MD_save 67 = .ok (.invokevirtual 147, 3) := by decide +kernel
theorem d_MD_save_70 : decode b_MD_save 70 = .ok (.goto 8, 3) := by decide +kernel
theorem d_MD_save_73 : decode b_MD_save 73 = .ok (.aload_n 0, 1) := by decide +kernel
theorem d_MD_save_74 : decode b_MD_save 74 = .ok (.iload_n 3, 1) := by decide +kernel
theorem d_MD_save_75 : decode b_MD_save 75 = .ok (.invokevirtual 58, 3) := by decide +kernel
theorem d_MD_save_78 : decode b_MD_save 78 = .ok (.aload_n 0, 1) := by decide +kernel
theorem d_MD_save_79 : decode b_MD_save 79 = .ok (.iload_n 1, 1) := by decide +kernel
theorem d_MD_save_80 : decode b_MD_save 80 = .ok (.iload_n 2, 1) := by decide +kernel
theorem d_MD_save_81 : decode b_MD_save 81 = .ok (.iconst 1, 1) := by decide +kernel
theorem d_MD_save_82 : decode b_MD_save 82 = .ok (.invokevirtual 140, 3) := by decide +kernel
theorem d_MD_save_85 : decode b_MD_save 85 = .ok (.iload 4, 2) := by decide +kernel
theorem d_MD_save_87 : decode b_MD_save 87 = .ok (.ireturn, 1) := by decide +kernel
theorem d_MD_step_0 : decode b_MD_step 0 = .ok (.aload_n 0, 1) := by decide +kernel
theorem d_MD_step_1 : decode b_MD_step 1 = .ok (.iload_n 1, 1) := by decide +kernel
theorem d_MD_step_2 : decode b_MD_step 2 = .ok (.iconst 1, 1) := by decide +kernel
theorem d_MD_step_3 : decode b_MD_step 3 = .ok (.if_icmp .lt 10, 3) := by decide +kernel
theorem d_MD_step_6 : decode b_MD_step 6 = .ok (.iload_n 1, 1) := by decide +kernel
theorem d_MD_step_7 : decode b_MD_step 7 = .ok (.sipush 1000, 3) := by decide +kernel
theorem d_MD_step_10 : decode b_MD_step 10 = .ok (.if_icmp .le 7, 3) := by decide +kernel
theorem d_MD_step_13 : decode b_MD_step 13 = .ok (.iconst 1, 1) := by decide +kernel
theorem d_MD_step_14 : decode b_MD_step 14 = .ok (.goto 4, 3) := by decide +kernel
theorem d_MD_step_17 : decode b_MD_step 17 = .ok (.iconst 0, 1) := by decide +kernel
theorem d_MD_step_18 : decode b_MD_step 18 = .ok (.putfield 52, 3) := by decide +kernel
theorem d_MD_step_21 : decode b_MD_step 21 = .ok (.aload_n 0, 1) := by decide +kernel
theorem d_MD_step_22 : decode b_MD_step 22 = .ok (.getfield 52, 3) := by decide +kernel
theorem d_MD_step_25 : decode b_MD_step 25 = .ok (.ifCond .le 5, 3) := by decide +kernel
theorem d_MD_step_28 : decode b_MD_step 28 = .ok (.iconst 0, 1) := by decide +kernel
theorem d_MD_step_29 : decode b_MD_step 29 = .ok (.ireturn, 1) := by decide +kernel
theorem d_MD_step_30 : decode b_MD_step 30 = .ok (.aload_n 0, 1) := by decide +kernel
theorem d_MD_step_31 : decode b_MD_step 31 = .ok (.getfield 78, 3) := by decide +kernel
theorem d_MD_step_34 : decode b_MD_step 34 = .ok (.iload_n 1, 1) := by decide +kernel
theorem d_MD_step_35 : decode b_MD_step 35 = .ok (.iadd, 1) := by decide +kernel
theorem d_MD_step_36 : decode b_MD_step 36 = .ok (.istore_n 2, 1) := by decide +kernel
theorem d_MD_step_37 : decode b_MD_step 37 = .ok (.aload_n 0, 1) := by decide +kernel
theorem d_MD_step_38 : decode b_MD_step 38 = .ok (.getfield 78, 3) := by decide +kernel
theorem d_MD_step_41 : decode b_MD_step 41 = .ok (.iload_n 2, 1) := by decide +kernel
theorem d_MD_step_42 : decode b_MD_step 42 = .ok (.if_icmp .ge 77, 3) := by decide +kernel
theorem d_MD_step_45 : decode b_MD_step 45 = .ok (.aload_n 0, 1) := by decide +kernel
theorem d_MD_step_46 : decode b_MD_step 46 = .ok (.getfield 110, 3) := by decide +kernel
theorem d_MD_step_49 : decode b_MD_step 49 = .ok (.ifCond .ne 14, 3) := by decide +kernel
theorem d_MD_step_52 : decode b_MD_step 52 = .ok (.aload_n 0, 1) := by decide +kernel
theorem d_MD_step_53 : decode b_MD_step 53 = .ok (.getfield 69, 3) := by decide +kernel
theorem d_MD_step_56 : decode b_MD_step 56 = .ok (.ifCond .le 7, 3) := by decide +kernel
theorem d_MD_step_59 : decode b_MD_step 59 = .ok (.aload_n 0, 1) := by decide +kernel
theorem d_MD_step_60 : decode b_MD_step 60 = .ok (.invokevirtual 150, 3) := by decide +kernel
theorem d_MD_step_63 : decode b_MD_step 63 = .ok (.aload_n 0, 1) := by decide +kernel
theorem d_MD_step_64 : decode b_MD_step 64 = .ok (.getfield 110, 3) := by decide +kernel
theorem d_MD_step_67 : decode b_MD_step 67 = .ok (.ifCond .eq 18, 3) := by decide +kernel
theorem d_MD_step_70 : decode b_MD_step 70 = .ok (.aload_n 0, 1) := by decide +kernel
theorem d_MD_step_71 : decode b_MD_step 71 = .ok (.getfield 116, 3) := by decide +kernel
theorem d_MD_step_74 : decode b_MD_step 74 = .ok (.iload_n 2, 1) := by decide +kernel
theorem d_MD_step_75 : decode b_MD_step 75 = .ok (.if_icmp .gt 10, 3) := by decide +kernel
theorem d_MD_step_78 : decode b_MD_step 78 = .ok (.aload_n 0, 1) := by decide +kernel
theorem d_MD_step_79 : decode b_MD_step 79 = .ok (.invokevirtual 153, 3) := by decide +kernel
theorem d_MD_step_82 : decode b_MD_step 82 = .ok (.goto (-45), 3) := by decide +kernel
theorem d_MD_step_85 : decode b_MD_step 85 = .ok (.aload_n 0, 1) := by decide +kernel
theorem d_MD_step_86 : decode b_MD_step 86 = .ok (.dup, 1) := by decide +kernel
theorem d_MD_step_87 : decode b_MD_step 87 = .ok (.getfield 156, 3) := by decide +kernel
theorem d_MD_step_90 : decode b_MD_step 90 = .ok (.aload_n 0, 1) := by decide +kernel
theorem d_MD_step_91 : decode b_MD_step 91 = .ok (.getfield 110, 3) := by decide +kernel
theorem d_MD_step_94 : decode b_MD_step 94 = .ok (.ifCond .eq 7, 3) := by decide +kernel
theorem d_MD_step_97 : decode b_MD_step 97 = .ok (.iconst 0, 1) := by decide +kernel
theorem d_MD_step_98 : decode b_MD_step 98 = .ok (.goto 9, 3) := by decide +kernel
theorem d_MD_step_101 : decode b_MD_step 101 = .ok (.iload_n 2, 1) := by decide +kernel
theorem d_MD_step_102 : decode b_MD_step 102 = .ok (.aload_n 0, 1) := by decide +kernel
theorem d_MD_step_103 : decode b_MD_step 103 = .ok (.getfield 78, 3) := by decide +kernel
theorem d_MD_step_106 : decode b_MD_step 106 = .ok (.isub, 1) := by decide +kernel
theorem d_MD_step_107 : decode b_MD_step 107 = .ok (.iadd, 1) := by decide +kernel
theorem d_MD_step_108 : decode b_MD_step 108 = .ok (.putfield 156, 3) := by decide +kernel
theorem d_MD_step_111 : decode b_MD_step 111 = .ok (.aload_n 0, 1) := by decide +kernel
theorem d_MD_step_112 : decode b_MD_step 112 = .ok (.iload_n 2, 1) := by decide +kernel
theorem d_MD_step_113 : decode b_MD_step 113 = .ok (.putfield 78, 3) := by decide +kernel
theorem d_MD_step_116 : decode b_MD_step 116 = .ok (.goto (-79), 3) := by decide +kernel
theorem d_MD_step_119 : decode b_MD_step 119 = .ok (.aload_n 0, 1) := by decide +kernel
theorem d_MD_step_120 : decode b_MD_step 120 = .ok (.getfield 78, 3) := by decide +kernel
theorem d_MD_step_123 : decode b_MD_step 123 = .ok (.ireturn, 1) := by decide +kernel
theorem d_MD_sync_0 : decode b_MD_sync 0 = .ok (.aload_n 0, 1) := by decide +kernel
theorem d_MD_sync_1 : decode b_MD_sync 1 = .ok (.aload_n 0, 1) := by decide +kernel
theorem d_MD_sync_2 : decode b_MD_sync 2 = .ok (.getfield 69, 3) := by decide +kernel
theorem d_MD_sync_5 : decode b_MD_sync 5 = .ok (.aload_n 0, 1) := by decide +kernel
theorem d_MD_sync_6 : decode b_MD_sync 6 = .ok (.getfield 55, 3) := by decide +kernel
theorem d_MD_sync_9 : decode b_MD_sync 9 = .ok (.iadd, 1) := by decide +kernel
theorem d_MD_sync_10 : decode b_MD_sync 10 = .ok (.iconst 1, 1) := by decide +kernel
theorem d_MD_sync_11 : decode b_MD_sync 11 = .ok (.iadd, 1) := by decide +kernel
theorem d_MD_sync_12 : decode b_MD_sync 12 = .ok (.bipush 40, 2) := by decide +kernel
theorem d_MD_sync_14 : decode b_MD_sync 14 = .ok (.if_icmp .le 7, 3) := by decide +kernel
theorem d_MD_sync_17 : decode b_MD_sync 17 = .ok (.iconst 1, 1) := by decide +kernel
theorem d_MD_sync_18 : decode b_MD_sync 18 = .ok (.goto 4, 3) := by decide +kernel
theorem d_MD_sync_21 : decode b_MD_sync 21 = .ok (.iconst 0, 1) := by decide +kernel
theorem d_MD_sync_22 : decode b_MD_sync 22 = .ok (.putfield 52, 3) := by decide +kernel
theorem d_MD_sync_25 : decode b_MD_sync 25 = .ok (.aload_n 0, 1) := by decide +kernel
theorem d_MD_sync_26 : decode b_MD_sync 26 = .ok (.getfield 52, 3) := by decide +kernel
theorem d_MD_sync_29 : decode b_MD_sync 29 = .ok (.ifCond .le 5, 3) := by decide +kernel
theorem d_MD_sync_32 : decode b_MD_sync 32 = .ok (.iconst 0, 1) := by decide +kernel
theorem d_MD_sync_33 : decode b_MD_sync 33 = .ok (.ireturn, 1) := by decide +kernel
theorem d_MD_sync_34 : decode b_MD_sync 34 = .ok (.iconst 0, 1) := by decide +kernel
theorem d_MD_sync_35 : decode b_MD_sync 35 = .ok (.istore_n 1, 1) := by decide +kernel
theorem d_MD_sync_36 : decode b_MD_sync 36 = .ok (.iconst 0, 1) := by decide +kernel
theorem d_MD_sync_37 : decode b_MD_sync 37 = .ok (.istore_n 2, 1) := by decide +kernel
theorem d_MD_sync_38 : decode b_MD_sync 38 = .ok (.iload_n 2, 1) := by decide +kernel
theorem d_MD_sync_39 : decode b_MD_sync 39 = .ok (.sipush 256, 3) := by decide +kernel
theorem d_MD_sync_42 : decode b_MD_sync 42 = .ok (.if_icmp .ge 50, 3) := by decide +kernel
theorem d_MD_sync_45 : decode b_MD_sync 45 = .ok (.aload_n 0, 1) := by decide +kernel
theorem d_MD_sync_46 : decode b_MD_sync 46 = .ok (.iload_n 2, 1) := by decide +kernel
theorem d_MD_sync_47 : decode b_MD_sync 47 = .ok (.invokevirtual 134, 3) := by decide +kernel
theorem d_MD_sync_50 : decode b_MD_sync 50 = .ok (.istore_n 3, 1) := by decide +kernel
theorem d_MD_sync_51 : decode b_MD_sync 51 = .ok (.iload_n 3, 1) := by decide +kernel
theorem d_MD_sync_52 : decode b_MD_sync 52 = .ok (.ifCond .lt 34, 3) := by decide +kernel
theorem d_MD_sync_55 : decode b_MD_sync 55 = .ok (.aload_n 0, 1) := by decide +kernel
theorem d_MD_sync_56 : decode b_MD_sync 56 = .ok (.getfield 23, 3) := by decide +kernel
theorem d_MD_sync_59 : decode b_MD_sync 59 = .ok (.iload_n 3, 1) := by decide +kernel
theorem d_MD_sync_60 : decode b_MD_sync 60 = .ok (.baload, 1) := by decide +kernel
theorem d_MD_sync_61 : decode b_MD_sync 61 = .ok (.ifCond .eq 25, 3) := by decide +kernel
theorem d_MD_sync_64 : decode b_MD_sync 64 = .ok (.aload_n 0, 1) := by decide +kernel
theorem d_MD_sync_65 : decode b_MD_sync 65 = .ok (.iconst 1, 1) := by decide +kernel
theorem d_MD_sync_66 : decode b_MD_sync 66 = .ok (.iload_n 2, 1) := by decide +kernel
theorem d_MD_sync_67 : decode b_MD_sync 67 = .ok (.aload_n 0, 1) := by decide +kernel
theorem d_MD_sync_68 : decode b_MD_sync 68 = .ok (.getfield 20, 3) := by decide +kernel
theorem d_MD_sync_71 : decode b_MD_sync 71 = .ok (.iload_n 3, 1) := by decide +kernel
theorem d_MD_sync_72 : decode b_MD_sync 72 = .ok (.iaload, 1) := by decide +kernel
theorem d_MD_sync_73 : decode b_MD_sync 73 = .ok (.invokevirtual 65, 3) := by decide +kernel
theorem d_MD_sync_76 : decode b_MD_sync 76 = .ok (.aload_n 0, 1) := by decide +kernel
theorem d_MD_sync_77 : decode b_MD_sync 77 = .ok (.getfield 23, 3) := by decide +kernel
theorem d_MD_sync_80 : decode b_MD_sync 80 = .ok (.iload_n 3, 1) := by decide +kernel
theorem d_MD_sync_81 : decode b_MD_sync 81 = .ok (.iconst 0, 1) := by decide +kernel
theorem d_MD_sync_82 : decode b_MD_sync 82 = .ok (.bastore, 1) := by decide +kernel
theorem d_MD_sync_83 : decode b_MD_sync 83 = .ok (.iinc 1 1, 3) := by decide +kernel
theorem d_MD_sync_86 : decode b_MD_sync 86 = .ok (.iinc 2 1, 3) := by decide +kernel
theorem d_MD_sync_89 : decode b_MD_sync 89 = .ok (.goto (-51), 3) := by decide +kernel
theorem d_MD_sync_92 : decode b_MD_sync 92 = .ok (.aload_n 0, 1) := by decide +kernel
theorem d_MD_sync_93 : decode b_MD_sync 93 = .ok (.iconst 2, 1) := by decide +kernel
theorem d_MD_sync_94 : decode b_MD_sync 94 = .ok (.iconst (-1), 1) := by decide +kernel
theorem d_MD_sync_95 : decode b_MD_sync 95 = .ok (.iconst 0, 1) := by decide +kernel
theorem d_MD_sync_96 : decode b_MD_sync 96 = .ok (.invokevirtual 65, 3) := by decide +kernel
theorem d_MD_sync_99 : decode b_MD_sync 99 = .ok (.iload_n 1, 1) := by decide +kernel
theorem d_MD_sync_100 : decode b_MD_sync 100 = .ok (.ireturn, 1) := by decide +kernel
theorem d_MD_thrown_0 : decode b_MD_thrown 0 = .ok (.aload_n 0, 1) := by decide +kernel
theorem d_MD_thrown_1 : decode b_MD_thrown 1 = .ok (.getfield 52, 3) := by decide +kernel
theorem d_MD_thrown_4 : decode b_MD_thrown 4 = .ok (.ireturn, 1) := by decide +kernel
theorem d_MD_told_0 : decode b_MD_told 0 = .ok (.aload_n 0, 1) := by decide +kernel
theorem d_MD_told_1 : decode b_MD_told 1 = .ok (.iconst 0, 1) := by decide +kernel
theorem d_MD_told_2 : decode b_MD_told 2 = .ok (.putfield 52, 3) := by decide +kernel
theorem d_MD_told_5 : decode b_MD_told 5 = .ok (.iload_n 1, 1) := by decide +kernel
theorem d_MD_told_6 : decode b_MD_told 6 = .ok (.tableswitch 136 0 11 #[62, 67, 72, 91, 96, 101, 106, 111, 116, 121, 126, 131], 62) := by decide +kernel
theorem d_MD_told_68 : decode b_MD_told 68 = .ok (.aload_n 0, 1) := by decide +kernel
theorem d_MD_told_69 : decode b_MD_told 69 = .ok (.getfield 78, 3) := by decide +kernel
end
section
theorem d_MD_told_72 : decode b_MD_told 72 = .ok (.ireturn, 1) := by decide +kernel
theorem d_MD_told_73 : decode b_MD_told 73 = .ok (.aload_n 0, 1) := by decide +kernel
theorem d_MD_told_74 : decode b_MD_told 74 = .ok (.getfield 85, 3) := by decide +kernel
theorem d_MD_told_77 : decode b_MD_told 77 = .ok (.ireturn, 1) := by decide +kernel
theorem d_MD_told_78 : decode b_MD_told 78 = .ok (.aload_n 0, 1) := by decide +kernel
theorem d_MD_told_79 : decode b_MD_told 79 = .ok (.getfield 110, 3) := by decide +kernel
theorem d_MD_told_82 : decode b_MD_told 82 = .ok (.ifCond .eq 13, 3) := by decide +kernel
theorem d_MD_told_85 : decode b_MD_told 85 = .ok (.aload_n 0, 1) := by decide +kernel
theorem d_MD_told_86 : decode b_MD_told 86 = .ok (.getfield 27, 3) := by decide +kernel
theorem d_MD_told_89 : decode b_MD_told 89 = .ok (.bipush 40, 2) := by decide +kernel
theorem d_MD_told_91 : decode b_MD_told 91 = .ok (.iaload, 1) := by decide +kernel
theorem d_MD_told_92 : decode b_MD_told 92 = .ok (.goto 4, 3) := by decide +kernel
theorem d_MD_told_95 : decode b_MD_told 95 = .ok (.iconst (-1), 1) := by decide +kernel
theorem d_MD_told_96 : decode b_MD_told 96 = .ok (.ireturn, 1) := by decide +kernel
theorem d_MD_told_97 : decode b_MD_told 97 = .ok (.aload_n 0, 1) := by decide +kernel
theorem d_MD_told_98 : decode b_MD_told 98 = .ok (.getfield 69, 3) := by decide +kernel
theorem d_MD_told_101 : decode b_MD_told 101 = .ok (.ireturn, 1) := by decide +kernel
theorem d_MD_told_102 : decode b_MD_told 102 = .ok (.aload_n 0, 1) := by decide +kernel
theorem d_MD_told_103 : decode b_MD_told 103 = .ok (.getfield 113, 3) := by decide +kernel
theorem d_MD_told_106 : decode b_MD_told 106 = .ok (.ireturn, 1) := by decide +kernel
theorem d_MD_told_107 : decode b_MD_told 107 = .ok (.aload_n 0, 1) := by decide +kernel
theorem d_MD_told_108 : decode b_MD_told 108 = .ok (.getfield 55, 3) := by decide +kernel
theorem d_MD_told_111 : decode b_MD_told 111 = .ok (.ireturn, 1) := by decide +kernel
theorem d_MD_told_112 : decode b_MD_told 112 = .ok (.aload_n 0, 1) := by decide +kernel
theorem d_MD_told_113 : decode b_MD_told 113 = .ok (.getfield 137, 3) := by decide +kernel
theorem d_MD_told_116 : decode b_MD_told 116 = .ok (.ireturn, 1) := by decide +kernel
theorem d_MD_told_117 : decode b_MD_told 117 = .ok (.aload_n 0, 1) := by decide +kernel
theorem d_MD_told_118 : decode b_MD_told 118 = .ok (.getfield 144, 3) := by decide +kernel
theorem d_MD_told_121 : decode b_MD_told 121 = .ok (.ireturn, 1) := by decide +kernel
theorem d_MD_told_122 : decode b_MD_told 122 = .ok (.aload_n 0, 1) := by decide +kernel
theorem d_MD_told_123 : decode b_MD_told 123 = .ok (.getfield 62, 3) := by decide +kernel
theorem d_MD_told_126 : decode b_MD_told 126 = .ok (.ireturn, 1) := by decide +kernel
theorem d_MD_told_127 : decode b_MD_told 127 = .ok (.aload_n 0, 1) := by decide +kernel
theorem d_MD_told_128 : decode b_MD_told 128 = .ok (.getfield 72, 3) := by decide +kernel
theorem d_MD_told_131 : decode b_MD_told 131 = .ok (.ireturn, 1) := by decide +kernel
theorem d_MD_told_132 : decode b_MD_told 132 = .ok (.aload_n 0, 1) := by decide +kernel
theorem d_MD_told_133 : decode b_MD_told 133 = .ok (.getfield 119, 3) := by decide +kernel
theorem d_MD_told_136 : decode b_MD_told 136 = .ok (.ireturn, 1) := by decide +kernel
theorem d_MD_told_137 : decode b_MD_told 137 = .ok (.aload_n 0, 1) := by decide +kernel
theorem d_MD_told_138 : decode b_MD_told 138 = .ok (.getfield 156, 3) := by decide +kernel
theorem d_MD_told_141 : decode b_MD_told 141 = .ok (.ireturn, 1) := by decide +kernel
theorem d_MD_told_142 : decode b_MD_told 142 = .ok (.iconst (-1), 1) := by decide +kernel
theorem d_MD_told_143 : decode b_MD_told 143 = .ok (.ireturn, 1) := by decide +kernel
theorem d_MD_track_0 : decode b_MD_track 0 = .ok (.aload_n 0, 1) := by decide +kernel
theorem d_MD_track_1 : decode b_MD_track 1 = .ok (.getfield 33, 3) := by decide +kernel
theorem d_MD_track_4 : decode b_MD_track 4 = .ok (.iload_n 1, 1) := by decide +kernel
theorem d_MD_track_5 : decode b_MD_track 5 = .ok (.iaload, 1) := by decide +kernel
theorem d_MD_track_6 : decode b_MD_track 6 = .ok (.bipush 8, 2) := by decide +kernel
theorem d_MD_track_8 : decode b_MD_track 8 = .ok (.idiv, 1) := by decide +kernel
theorem d_MD_track_9 : decode b_MD_track 9 = .ok (.ireturn, 1) := by decide +kernel
theorem d_MD_used_0 : decode b_MD_used 0 = .ok (.aload_n 0, 1) := by decide +kernel
theorem d_MD_used_1 : decode b_MD_used 1 = .ok (.iconst 0, 1) := by decide +kernel
theorem d_MD_used_2 : decode b_MD_used 2 = .ok (.putfield 52, 3) := by decide +kernel
theorem d_MD_used_5 : decode b_MD_used 5 = .ok (.iload_n 1, 1) := by decide +kernel
theorem d_MD_used_6 : decode b_MD_used 6 = .ok (.ifCond .lt 11, 3) := by decide +kernel
theorem d_MD_used_9 : decode b_MD_used 9 = .ok (.iload_n 1, 1) := by decide +kernel
theorem d_MD_used_10 : decode b_MD_used 10 = .ok (.aload_n 0, 1) := by decide +kernel
theorem d_MD_used_11 : decode b_MD_used 11 = .ok (.getfield 55, 3) := by decide +kernel
theorem d_MD_used_14 : decode b_MD_used 14 = .ok (.if_icmp .lt 7, 3) := by decide +kernel
theorem d_MD_used_17 : decode b_MD_used 17 = .ok (.iconst (-1), 1) := by decide +kernel
theorem d_MD_used_18 : decode b_MD_used 18 = .ok (.goto 9, 3) := by decide +kernel
theorem d_MD_used_21 : decode b_MD_used 21 = .ok (.aload_n 0, 1) := by decide +kernel
theorem d_MD_used_22 : decode b_MD_used 22 = .ok (.getfield 17, 3) := by decide +kernel
theorem d_MD_used_25 : decode b_MD_used 25 = .ok (.iload_n 1, 1) := by decide +kernel
theorem d_MD_used_26 : decode b_MD_used 26 = .ok (.iaload, 1) := by decide +kernel
theorem d_MD_used_27 : decode b_MD_used 27 = .ok (.ireturn, 1) := by decide +kernel
theorem d_MD_valueAt_0 : decode b_MD_valueAt 0 = .ok (.aload_n 0, 1) := by decide +kernel
theorem d_MD_valueAt_1 : decode b_MD_valueAt 1 = .ok (.getfield 13, 3) := by decide +kernel
theorem d_MD_valueAt_4 : decode b_MD_valueAt 4 = .ok (.iload_n 1, 1) := by decide +kernel
theorem d_MD_valueAt_5 : decode b_MD_valueAt 5 = .ok (.iaload, 1) := by decide +kernel
theorem d_MD_valueAt_6 : decode b_MD_valueAt 6 = .ok (.istore_n 2, 1) := by decide +kernel
theorem d_MD_valueAt_7 : decode b_MD_valueAt 7 = .ok (.iconst 0, 1) := by decide +kernel
theorem d_MD_valueAt_8 : decode b_MD_valueAt 8 = .ok (.istore_n 3, 1) := by decide +kernel
theorem d_MD_valueAt_9 : decode b_MD_valueAt 9 = .ok (.iload_n 3, 1) := by decide +kernel
theorem d_MD_valueAt_10 : decode b_MD_valueAt 10 = .ok (.aload_n 0, 1) := by decide +kernel
theorem d_MD_valueAt_11 : decode b_MD_valueAt 11 = .ok (.getfield 113, 3) := by decide +kernel
theorem d_MD_valueAt_14 : decode b_MD_valueAt 14 = .ok (.if_icmp .ge 30, 3) := by decide +kernel
theorem d_MD_valueAt_17 : decode b_MD_valueAt 17 = .ok (.aload_n 0, 1) := by decide +kernel
theorem d_MD_valueAt_18 : decode b_MD_valueAt 18 = .ok (.getfield 42, 3) := by decide +kernel
theorem d_MD_valueAt_21 : decode b_MD_valueAt 21 = .ok (.iload_n 3, 1) := by decide +kernel
theorem d_MD_valueAt_22 : decode b_MD_valueAt 22 = .ok (.iaload, 1) := by decide +kernel
theorem d_MD_valueAt_23 : decode b_MD_valueAt 23 = .ok (.iload_n 1, 1) := by decide +kernel
theorem d_MD_valueAt_24 : decode b_MD_valueAt 24 = .ok (.if_icmp .ne 12, 3) := by decide +kernel
theorem d_MD_valueAt_27 : decode b_MD_valueAt 27 = .ok (.aload_n 0, 1) := by decide +kernel
theorem d_MD_valueAt_28 : decode b_MD_valueAt 28 = .ok (.getfield 45, 3) := by decide +kernel
theorem d_MD_valueAt_31 : decode b_MD_valueAt 31 = .ok (.iload_n 3, 1) := by decide +kernel
theorem d_MD_valueAt_32 : decode b_MD_valueAt 32 = .ok (.iaload, 1) := by decide +kernel
theorem d_MD_valueAt_33 : decode b_MD_valueAt 33 = .ok (.goto 4, 3) := by decide +kernel
theorem d_MD_valueAt_36 : decode b_MD_valueAt 36 = .ok (.iload_n 2, 1) := by decide +kernel
theorem d_MD_valueAt_37 : decode b_MD_valueAt 37 = .ok (.istore_n 2, 1) := by decide +kernel
theorem d_MD_valueAt_38 : decode b_MD_valueAt 38 = .ok (.iinc 3 1, 3) := by decide +kernel
theorem d_MD_valueAt_41 : decode b_MD_valueAt 41 = .ok (.goto (-32), 3) := by decide +kernel
theorem d_MD_valueAt_44 : decode b_MD_valueAt 44 = .ok (.iload_n 2, 1) := by decide +kernel
theorem d_MD_valueAt_45 : decode b_MD_valueAt 45 = .ok (.ireturn, 1) := by decide +kernel
end
section
/-! THE JDK's LIST: its cell, its array, its elements (by their addresses). -/
def LI (E : fh_E) (h : fh_H) (al arr : Nat) (xs : List Nat) : Prop :=
  ∃ (md : Int32) (cap : Nat) (f : Nat → Option Nat), h al = some (.inr (0, [.ref arr, .int (nI xs.length), .int md])) ∧ xs.length ≤ cap ∧ cap ≤ 73 ∧ (∀ i, i < xs.length → f i = xs[i]?) ∧ ((arr = fh_ed E ∧ cap = 0) ∨ 2 ≤ cap ∧ h arr = some (.inl (fh_cO E, cap, .inr (.inr (.inr (.inr f))))))

set_option maxHeartbeats 4000000 in
set_option maxRecDepth 100000 in
theorem c_PR_checkIndex (l : Launch) (E : fh_E) (h : fh_H) (i n : Nat) (hi : i < n) (hn : n < 2 ^ 31) : fh_Met l y_PR_checkIndex w_PR_checkIndex ({ frames := 0, cells := 0, slots := 0, locals := 0 }) E [.int (nI i), .int (nI n), .null] h (fun r h1 => r = some (.int (nI i)) ∧ h1 = h) 0 0 := by
  refine fh_ofW (cc := b_PR_checkIndex) (maxL := 3) (ret := (some .int)) (by decide) rfl (Nat.le_of_ble_eq_true rfl) ?_
  intro p e s m below meth c A ls hx hb hr hml hown hts hlocks hname hnoh hadm hA hK hZ hP hS hl
  have hG : ∀ w ∈ G, w.before _ s = true := fun w hw => hts w (List.mem_cons_of_mem _ hw)
  have hown : s.vm.findClass R_PR = some m.cls := hown
  have hl : lv_has ls 3 [(0, .int (nI i)), (1, .int (nI n)), (2, .null)] := hl
  refine lv_iload_n hx hb d_PR_checkIndex_0 rfl (lv_at hl 0 rfl) ?_
  refine lv_if_lt (tgt := 9) hx hb d_PR_checkIndex_1 (by decide) (fun c_1 => ?_) (fun c_1 => ?_)
  · skip
    exact absurd c_1 (nI_pos (by omega))
  · skip
    refine lv_iload_n hx hb d_PR_checkIndex_4 rfl (lv_at hl 0 rfl) ?_
    refine lv_iload_n hx hb d_PR_checkIndex_5 rfl (lv_at hl 1 rfl) ?_
    refine lv_icmp_lt (tgt := 16) hx hb d_PR_checkIndex_6 (by decide) (fun c_2 => ?_) (fun c_2 => ?_)
    · skip
      refine lv_iload_n hx hb d_PR_checkIndex_16 rfl (lv_at hl 0 rfl) ?_
      exact fh_iret hx hb hr hlocks (Nat.le_of_ble_eq_true rfl) (Nat.le_of_ble_eq_true rfl) hP hS ⟨rfl, rfl⟩ d_PR_checkIndex_17
    · skip
      exact absurd (nI_lt hi hn) c_2

set_option maxHeartbeats 4000000 in
set_option maxRecDepth 100000 in
theorem c_OB_checkIndex (l : Launch) (E : fh_E) (h : fh_H) (i n : Nat) (hi : i < n) (hn : n < 2 ^ 31) : fh_Met l y_OB_checkIndex w_OB_checkIndex ({ frames := 1, cells := 0, slots := 0, locals := 22 }) E [.int (nI i), .int (nI n)] h (fun r h1 => r = some (.int (nI i)) ∧ h1 = h) 0 0 := by
  refine fh_ofW (cc := b_OB_checkIndex) (maxL := 2) (ret := (some .int)) (by decide) rfl (Nat.le_of_ble_eq_true rfl) ?_
  intro p e s m below meth c A ls hx hb hr hml hown hts hlocks hname hnoh hadm hA hK hZ hP hS hl
  have hG : ∀ w ∈ G, w.before _ s = true := fun w hw => hts w (List.mem_cons_of_mem _ hw)
  have hown : s.vm.findClass R_OB = some m.cls := hown
  have hl : lv_has ls 2 [(0, .int (nI i)), (1, .int (nI n))] := hl
  refine lv_iload_n hx hb d_OB_checkIndex_0 rfl (lv_at hl 0 rfl) ?_
  refine lv_iload_n hx hb d_OB_checkIndex_1 rfl (lv_at hl 1 rfl) ?_
  refine lv_null hx hb d_OB_checkIndex_2 ?_
  refine fh_callS (y := y_PR_checkIndex) (bytes := b_PR_checkIndex) (maxL := 3) (ret := (some .int)) (index := 105) (As := [.int (nI i), .int (nI n), .null]) (rest := []) ⟨hx, hb, hml, hown, hG⟩ (c_PR_checkIndex l E h i n hi hn) ⟨callB_of 3 hG (gB gm193) rfl rfl rfl (hG _ gm15) (hG _ gm191) hdy_PR_checkIndex ⟨Nat.le_of_ble_eq_true rfl, Nat.le_of_ble_eq_true rfl⟩, hG _ gm192⟩ hK hZ hP hS hA rfl hl.1 rfl (Nat.le_of_ble_eq_true rfl) d_OB_checkIndex_3 ⟨Nat.le_of_ble_eq_true rfl, Nat.le_of_ble_eq_true rfl⟩ (fun r h1 H locs hq9 hP hS => ?_)
  obtain ⟨rfl, e9⟩ := hq9
  rw [e9] at hP
  refine W.eq (g2 := F0 m 6 ls [.int (nI i)]) rfl ?_
  exact fh_iret hx hb hr hlocks (Nat.le_of_ble_eq_true rfl) (Nat.le_of_ble_eq_true rfl) hP hS ⟨rfl, rfl⟩ d_OB_checkIndex_6

set_option maxHeartbeats 4000000 in
set_option maxRecDepth 100000 in
theorem c_AL_elementData (l : Launch) (E : fh_E) (h : fh_H) (al arr cap : Nat) (f : Nat → Option Nat) (sz md : Int32) (i q : Nat) (ha : h al = some (.inr (0, [.ref arr, .int sz, .int md]))) (hr0 : h arr = some (.inl (fh_cO E, cap, .inr (.inr (.inr (.inr f)))))) (hi : i < cap) (hc : cap ≤ 1000) (hq : f i = some q) : fh_Met l y_AL_elementData w_AL_elementData ({ frames := 0, cells := 0, slots := 0, locals := 0 }) E [.ref al, .int (nI i)] h (fun r h1 => r = some (.ref q) ∧ h1 = h) 0 0 := by
  refine fh_ofW (cc := b_AL_elementData) (maxL := 2) (ret := (some (.object "java/lang/Object"))) (by decide) rfl (Nat.le_of_ble_eq_true rfl) ?_
  intro p e s m below meth c A ls hx hb hr hml hown hts hlocks hname hnoh hadm hA hK hZ hP hS hl
  have hG : ∀ w ∈ G, w.before _ s = true := fun w hw => hts w (List.mem_cons_of_mem _ hw)
  have hown : s.vm.findClass R_AL = some m.cls := hown
  have hl : lv_has ls 2 [(0, .ref al), (1, .int (nI i))] := hl
  refine lv_aload_n hx hb d_AL_elementData_0 rfl (lv_at hl 0 rfl) ?_
  refine fh_get hx hb hG C_AL iG_AL hown hK hP ha 0 (by decide) gm51 rfl d_AL_elementData_1 ?_
  refine lv_iload_n hx hb d_AL_elementData_4 rfl (lv_at hl 1 rfl) ?_
  refine fh_aldq hx hb hK hP 2 hr0 rfl (vp_in_nI hi (by omega)) d_AL_elementData_5 ?_
  refine W.eq (g2 := F0 m 6 ls [.ref q]) (by rw [nI_clamp (by omega), hq]; rfl) ?_
  exact fh_aret hx hb hr (Or.inl ⟨_, rfl⟩) (Or.inr ⟨_, rfl⟩) hlocks (Nat.le_of_ble_eq_true rfl) (Nat.le_of_ble_eq_true rfl) hP hS ⟨rfl, rfl⟩ d_AL_elementData_6

set_option maxHeartbeats 4000000 in
set_option maxRecDepth 100000 in
theorem c_AL_size (l : Launch) (E : fh_E) (h : fh_H) (al : Nat) (ar : Value) (sz md : Int32) (ha : h al = some (.inr (0, [ar, .int sz, .int md]))) : fh_Met l y_AL_size w_AL_size ({ frames := 0, cells := 0, slots := 0, locals := 0 }) E [.ref al] h (fun r h1 => r = some (.int sz) ∧ h1 = h) 0 0 := by
  refine fh_ofW (cc := b_AL_size) (maxL := 1) (ret := (some .int)) (by decide) rfl (Nat.le_of_ble_eq_true rfl) ?_
  intro p e s m below meth c A ls hx hb hr hml hown hts hlocks hname hnoh hadm hA hK hZ hP hS hl
  have hG : ∀ w ∈ G, w.before _ s = true := fun w hw => hts w (List.mem_cons_of_mem _ hw)
  have hown : s.vm.findClass R_AL = some m.cls := hown
  have hl : lv_has ls 1 [(0, .ref al)] := hl
  refine lv_aload_n hx hb d_AL_size_0 rfl (lv_at hl 0 rfl) ?_
  refine fh_get hx hb hG C_AL iG_AL hown hK hP ha 1 (by decide) gm52 rfl d_AL_size_1 ?_
  exact fh_iret hx hb hr hlocks (Nat.le_of_ble_eq_true rfl) (Nat.le_of_ble_eq_true rfl) hP hS ⟨rfl, rfl⟩ d_AL_size_4

set_option maxHeartbeats 4000000 in
set_option maxRecDepth 100000 in
theorem c_AL_isEmpty (l : Launch) (E : fh_E) (h : fh_H) (al : Nat) (ar : Value) (sz md : Int32) (ha : h al = some (.inr (0, [ar, .int sz, .int md]))) : fh_Met l y_AL_isEmpty w_AL_isEmpty ({ frames := 0, cells := 0, slots := 0, locals := 0 }) E [.ref al] h (fun r h1 => r = some (.int (if sz = 0 then 1 else 0)) ∧ h1 = h) 0 0 := by
  refine fh_ofW (cc := b_AL_isEmpty) (maxL := 1) (ret := (some .boolean)) (by decide) rfl (Nat.le_of_ble_eq_true rfl) ?_
  intro p e s m below meth c A ls hx hb hr hml hown hts hlocks hname hnoh hadm hA hK hZ hP hS hl
  have hG : ∀ w ∈ G, w.before _ s = true := fun w hw => hts w (List.mem_cons_of_mem _ hw)
  have hown : s.vm.findClass R_AL = some m.cls := hown
  have hl : lv_has ls 1 [(0, .ref al)] := hl
  refine lv_aload_n hx hb d_AL_isEmpty_0 rfl (lv_at hl 0 rfl) ?_
  refine fh_get hx hb hG C_AL iG_AL hown hK hP ha 1 (by decide) gm52 rfl d_AL_isEmpty_1 ?_
  refine lv_if_ne (tgt := 11) hx hb d_AL_isEmpty_4 (by decide) (fun c_1 => ?_) (fun c_1 => ?_)
  · skip
    refine lv_iconst (v := 0) hx hb d_AL_isEmpty_11 (by decide) ?_
    exact fh_zret hx hb hr rfl hlocks (Nat.le_of_ble_eq_true rfl) (Nat.le_of_ble_eq_true rfl) hP hS ⟨by rw [if_neg c_1], rfl⟩ d_AL_isEmpty_12
  · skip
    refine lv_iconst (v := 1) hx hb d_AL_isEmpty_7 (by decide) ?_
    refine lv_goto (tgt := 12) hx hb d_AL_isEmpty_8 (by decide) ?_
    exact fh_zret hx hb hr rfl hlocks (Nat.le_of_ble_eq_true rfl) (Nat.le_of_ble_eq_true rfl) hP hS ⟨by rw [if_pos c_1], rfl⟩ d_AL_isEmpty_12

set_option maxHeartbeats 4000000 in
set_option maxRecDepth 100000 in
theorem c_AL_get (l : Launch) (E : fh_E) (h : fh_H) (al arr : Nat) (xs : List Nat) (i q : Nat) (hL : LI E h al arr xs) (hq : xs[i]? = some q) : fh_Met l y_AL_get w_AL_get ({ frames := 2, cells := 0, slots := 0, locals := 43 }) E [.ref al, .int (nI i)] h (fun r h1 => r = some (.ref q) ∧ h1 = h) 0 0 := by
  refine fh_ofW (cc := b_AL_get) (maxL := 2) (ret := (some (.object "java/lang/Object"))) (by decide) rfl (Nat.le_of_ble_eq_true rfl) ?_
  intro p e s m below meth c A ls hx hb hr hml hown hts hlocks hname hnoh hadm hA hK hZ hP hS hl
  have hG : ∀ w ∈ G, w.before _ s = true := fun w hw => hts w (List.mem_cons_of_mem _ hw)
  have hown : s.vm.findClass R_AL = some m.cls := hown
  have hl : lv_has ls 2 [(0, .ref al), (1, .int (nI i))] := hl
  obtain ⟨md, cap, f, ha, hlen, hcap, hf, hr0⟩ := hL
  have hi : i < xs.length := (List.getElem?_eq_some_iff.mp hq).1
  have hr0 : h arr = some (.inl (fh_cO E, cap, .inr (.inr (.inr (.inr f))))) := (hr0.resolve_left (fun z => by omega)).2
  refine lv_iload_n hx hb d_AL_get_0 rfl (lv_at hl 1 rfl) ?_
  refine lv_aload_n hx hb d_AL_get_1 rfl (lv_at hl 0 rfl) ?_
  refine fh_get hx hb hG C_AL iG_AL hown hK hP ha 1 (by decide) gm52 rfl d_AL_get_2 ?_
  refine fh_callS (y := y_OB_checkIndex) (bytes := b_OB_checkIndex) (maxL := 2) (ret := (some .int)) (index := 118) (As := [.int (nI i), .int (nI xs.length)]) (rest := []) ⟨hx, hb, hml, hown, hG⟩ (c_OB_checkIndex l E h i xs.length hi (by omega)) ⟨callB_of 2 hG (gB gm190) rfl rfl rfl (hG _ gm14) (hG _ gm188) hdy_OB_checkIndex ⟨Nat.le_of_ble_eq_true rfl, Nat.le_of_ble_eq_true rfl⟩, hG _ gm189⟩ hK hZ hP hS hA rfl hl.1 rfl (Nat.le_of_ble_eq_true rfl) d_AL_get_5 ⟨Nat.le_of_ble_eq_true rfl, Nat.le_of_ble_eq_true rfl⟩ (fun r h1 H locs hq9 hP hS => ?_)
  obtain ⟨rfl, e9⟩ := hq9
  rw [e9] at hP
  refine W.eq (g2 := F0 m 8 ls [.int (nI i)]) rfl ?_
  refine lv_pop hx hb d_AL_get_8 rfl ?_
  refine lv_aload_n hx hb d_AL_get_9 rfl (lv_at hl 0 rfl) ?_
  refine lv_iload_n hx hb d_AL_get_10 rfl (lv_at hl 1 rfl) ?_
  refine fh_callV (C := R_AL) (y := y_AL_elementData) (bytes := b_AL_elementData) (maxL := 2) (ret := (some (.object "java/lang/Object"))) (index := 123) (As := [.int (nI i)]) (rest := []) ⟨hx, hb, hml, hown, hG⟩ (c_AL_elementData l E h al arr cap f _ md i q ha hr0 (by omega) (by omega) (by rw [hf i hi]; exact hq)) (cwV 1 hG (gV gm194 gm195 gm196 gm5 gm197) rfl rfl rfl ⟨rfl, hdy_AL_elementData⟩ ⟨Nat.le_of_ble_eq_true rfl, Nat.le_of_ble_eq_true rfl⟩) C_AL.1 ha hK hZ hP hS hA rfl hl.1 rfl (Nat.le_of_ble_eq_true rfl) d_AL_get_11 ⟨Nat.le_of_ble_eq_true rfl, Nat.le_of_ble_eq_true rfl⟩ (fun r h1 H locs hq9 hP hS => ?_)
  obtain ⟨rfl, e9⟩ := hq9
  rw [e9] at hP
  refine W.eq (g2 := F0 m 14 ls [.ref q]) rfl ?_
  exact fh_aret hx hb hr (Or.inl ⟨_, rfl⟩) (Or.inr ⟨_, rfl⟩) hlocks (Nat.le_of_ble_eq_true rfl) (Nat.le_of_ble_eq_true rfl) hP hS ⟨rfl, rfl⟩ d_AL_get_14
end
section
/-! THE JDK's LIST: how it grows. -/
def EO (h : fh_H) (y : Nat) : Prop := (∃ fs, h y = some (.inr (1, fs))) ∨ ∃ fs, h y = some (.inr (3, fs))
theorem EO.up {h h1 : fh_H} {y q : Nat} (z : EO h y) (hu : y ≠ q → h1 y = h y) (hq : h q = none) : EO h1 y := by
  rcases z with ⟨fs, z⟩ | ⟨fs, z⟩
  · exact Or.inl ⟨fs, (hu (fh_neF z hq)).trans z⟩
  · exact Or.inr ⟨fs, (hu (fh_neF z hq)).trans z⟩
theorem EO.any {E : fh_E} {A B : Nat → Prop} {s : State} {H H0 : Heap} {h : fh_H} {y : Nat} (hZ : fh_Z E B s H0) (hK : va_K E.1 vwCl (fh_ty E) s) (hP : fh_P E.1 vwCl A h H) (z : EO h y) : va_Any "java/lang/Object" s H y := by
  rcases z with ⟨fs, z⟩ | ⟨fs, z⟩
  · exact fh_any hK hP C_CP.1 z (fhK hZ _ (by simp [fhCast]))
  · exact fh_any hK hP C_RQ.1 z (fhK hZ _ (by simp [fhCast]))
theorem li_cls {E : fh_E} {A : Nat → Prop} {s : State} {H : Heap} {h : fh_H} {a n : Nat} {f : Nat → Option Nat} (hK : va_K E.1 vwCl (fh_ty E) s) (hP : fh_P E.1 vwCl A h H) (ha : h a = some (.inl (fh_cO E, n, .inr (.inr (.inr (.inr f)))))) : ∃ cell : Cell, H[a]? = some cell ∧ cell.vm.isStatics = false ∧ s.vm.findClass fh_es = some cell.cls :=
  ⟨_, (hP.get ha).1, rfl, va_nmO (hK.2 2 (fh_cO E, .object "java/lang/Object") rfl).2 (by decide +kernel)⟩
theorem li_max (k : Nat) (hk : k ≤ 1000 := by omega) : (if nI 1 < nI k then nI k else nI 1) = nI (max 1 k) := by
  by_cases c : 1 < k
  · rw [if_pos (nI_lt c (by omega)), Nat.max_eq_right (by omega)]
  · rw [if_neg (nI_nlt (by omega) (by omega)), Nat.max_eq_left (by omega)]
theorem li_max10 {k : Nat} (hk : k ≤ 10) : (if (10 : Int32) < nI k then nI k else 10) = 10 := if_neg (show ¬ nI 10 < nI k from nI_nlt hk (by decide))
theorem li_min {a b : Nat} (h : a ≤ b) (hb : b < 2 ^ 31) : (if nI b < nI a then nI b else nI a) = nI a := if_neg (nI_nlt h hb)
theorem li_half {n : Nat} (h : n < 2 ^ 31) : nI n >>> ((1 : Int32) &&& 31) = nI (n / 2) := by
  have k := pk_shrN (n := n) h ((1 : Int32) &&& 31) 1 (by decide)
  rw [Nat.pow_one] at k
  exact k
theorem li_one {n : Nat} : nI (n + 1) - nI n = nI 1 := by
  have k := pk_sub (a := n + 1) (b := n) (by omega)
  rw [Nat.add_sub_cancel_left] at k
  exact k

set_option maxHeartbeats 4000000 in
set_option maxRecDepth 100000 in
theorem c_AS_newLength (l : Launch) (E : fh_E) (h : fh_H) (n k : Nat) (hn : 2 ≤ n) (hn2 : n ≤ 1000) (hk : k ≤ 1000) : fh_Met l y_AS_newLength w_AS_newLength ({ frames := 1, cells := 0, slots := 0, locals := 20 }) E [.int (nI n), .int (nI 1), .int (nI k)] h (fun r h1 => r = some (.int (nI (n + max 1 k))) ∧ h1 = h) 0 0 := by
  refine fh_ofW (cc := b_AS_newLength) (maxL := 4) (ret := (some .int)) (by decide) rfl (Nat.le_of_ble_eq_true rfl) ?_
  intro p e s m below meth c A ls hx hb hr hml hown hts hlocks hname hnoh hadm hA hK hZ hP hS hl
  have hG : ∀ w ∈ G, w.before _ s = true := fun w hw => hts w (List.mem_cons_of_mem _ hw)
  have hown : s.vm.findClass R_AS = some m.cls := hown
  have hl : lv_has ls 4 [(0, .int (nI n)), (1, .int (nI 1)), (2, .int (nI k))] := hl
  refine lv_iload_n hx hb d_AS_newLength_0 rfl (lv_at hl 0 rfl) ?_
  refine lv_iload_n hx hb d_AS_newLength_1 rfl (lv_at hl 1 rfl) ?_
  refine lv_iload_n hx hb d_AS_newLength_2 rfl (lv_at hl 2 rfl) ?_
  refine va_mmax hx hb (hml.trans hl.1.symm) hown (hG _ gm312) (hG _ gm313) (hG _ gm19) (hG _ gm314) (Nat.le_of_ble_eq_true rfl) (Nat.le_of_ble_eq_true rfl) (Nat.le_of_ble_eq_true rfl) (Nat.le_of_ble_eq_true rfl) d_AS_newLength_3 ?_
  refine W.eq (g2 := F0 m 6 ls [.int (nI (max 1 k)), .int (nI n)]) (by rw [li_max k (by omega)]) ?_
  refine lv_iadd hx hb d_AS_newLength_6 ?_
  refine W.eq (g2 := F0 m 7 ls [.int (nI (n + max 1 k))]) (by rw [nI_add]) ?_
  refine lv_istore_n (lv' := [(3, .int (nI (n + max 1 k))), (0, .int (nI n)), (1, .int (nI 1)), (2, .int (nI k))]) hx hb d_AS_newLength_7 rfl hl (by decide) rfl (fun ls hl => ?_)
  refine lv_iconst (v := 0) hx hb d_AS_newLength_8 (by decide) ?_
  refine lv_iload_n hx hb d_AS_newLength_9 rfl (lv_at hl 0 rfl) ?_
  refine lv_icmp_ge (tgt := 21) hx hb d_AS_newLength_10 (by decide) (fun c_1 => ?_) (fun c_1 => ?_)
  · skip
    exact absurd c_1 (nI_nle (by omega) (by omega))
  · skip
    refine lv_iload_n hx hb d_AS_newLength_13 rfl (lv_at hl 0 rfl) ?_
    refine lv_ldc (v := 2147483639) hx hb hown (hG _ gm315) d_AS_newLength_14 ?_
    refine lv_icmp_gt (tgt := 21) hx hb d_AS_newLength_16 (by decide) (fun c_2 => ?_) (fun c_2 => ?_)
    · skip
      exact absurd c_2 (show ¬ nI 2147483639 < nI _ from nI_nlt (by omega) (by decide))
    · skip
      refine lv_iload_n hx hb d_AS_newLength_19 rfl (lv_at hl 0 rfl) ?_
      exact fh_iret hx hb hr hlocks (Nat.le_of_ble_eq_true rfl) (Nat.le_of_ble_eq_true rfl) hP hS ⟨rfl, rfl⟩ d_AS_newLength_20

set_option maxHeartbeats 4000000 in
set_option maxRecDepth 100000 in
theorem c_AR_copyOf1 (l : Launch) (E : fh_E) (h : fh_H) (arr n0 n1 : Nat) (f : Nat → Option Nat) (hr0 : h arr = some (.inl (fh_cO E, n0, .inr (.inr (.inr (.inr f)))))) (h01 : n0 ≤ n1) (h73 : n1 ≤ 73) (hE : ∀ i, i < n0 → ∀ y, f i = some y → EO h y) : fh_Met l y_AR_copyOf1 w_AR_copyOf1 ({ frames := 1, cells := 1, slots := 73, locals := 60 }) E [.ref arr, .int (nI n1), .ref (fh_mi E)] h (fun r h1 => ∃ q, r = some (.ref q) ∧ h q = none ∧ h1 = va_up h q (some (.inl (fh_cO E, n1, .inr (.inr (.inr (.inr (va_cpy f (fun _ => none) 0 0 n0)))))))) 1 73 := by
  refine fh_ofW (cc := b_AR_copyOf1) (maxL := 4) (ret := (some (.array (.object "java/lang/Object")))) (by decide) rfl (Nat.le_of_ble_eq_true rfl) ?_
  intro p e s m below meth c A ls hx hb hr hml hown hts hlocks hname hnoh hadm hA hK hZ hP hS hl
  have hG : ∀ w ∈ G, w.before _ s = true := fun w hw => hts w (List.mem_cons_of_mem _ hw)
  have hown : s.vm.findClass R_AR = some m.cls := hown
  have hl : lv_has ls 4 [(0, .ref arr), (1, .int (nI n1)), (2, .ref (fh_mi E))] := hl
  refine lv_aload_n hx hb d_AR_copyOf1_0 rfl (lv_at hl 2 rfl) ?_
  refine va_ldcM hx hb hown (hG _ gm340) hZ.2.2.1 d_AR_copyOf1_1 ?_
  refine lv_acmp_ne (rx := some (fh_mi E)) (ry := some (fh_mi E)) (tgt := 13) hx hb d_AR_copyOf1_3 (by decide) (fun c_0 => absurd rfl c_0) (fun _ => ?_)
  refine lv_iload_n hx hb d_AR_copyOf1_6 rfl (lv_at hl 1 rfl) ?_
  refine fh_newq hx hb hown (hG _ gm342) hZ.2.2.2.1 hK hP hS hA 2 rfl (N' := n1) (nI_pos (by omega)) (nI_clamp (by omega)) (by omega) (Nat.le_of_ble_eq_true rfl) (by show 0 + n1 ≤ 73; omega) d_AR_copyOf1_7 (fun q H hf_1 hP hS => ?_)
  obtain ⟨h_2, eh_3⟩ : ∃ z : fh_H, z = va_up h q (some (.inl (fh_cO E, n1, .inr (.inr (.inr (.inr (fun _ => none))))))) := ⟨_, rfl⟩
  have hP : fh_P E.1 vwCl A h_2 H := by rw [eh_3]; exact hP
  have k_4 : h_2 arr = some (.inl (fh_cO E, n0, .inr (.inr (.inr (.inr f))))) := by rw [eh_3]; exact fh_up hr0 (fh_neF hr0 hf_1)
  have k_5 : h_2 q = some (.inl (fh_cO E, n1, .inr (.inr (.inr (.inr (fun _ => none)))))) := by rw [eh_3]; exact va_up_self _ _ _
  refine lv_goto (tgt := 24) hx hb d_AR_copyOf1_10 (by decide) ?_
  refine lv_astore_n (lv' := [(3, .ref q), (0, .ref arr), (1, .int (nI n1)), (2, .ref (fh_mi E))]) hx hb d_AR_copyOf1_24 rfl hl (by decide) rfl (fun ls hl => ?_)
  refine lv_aload_n hx hb d_AR_copyOf1_25 rfl (lv_at hl 1 rfl) ?_
  refine lv_iconst (v := 0) hx hb d_AR_copyOf1_26 (by decide) ?_
  refine lv_aload_n hx hb d_AR_copyOf1_27 rfl (lv_at hl 0 rfl) ?_
  refine lv_iconst (v := 0) hx hb d_AR_copyOf1_28 (by decide) ?_
  refine lv_aload_n hx hb d_AR_copyOf1_29 rfl (lv_at hl 1 rfl) ?_
  refine fh_alen hx hb hK hP 2 k_4 rfl rfl d_AR_copyOf1_30 ?_
  refine W.eq (g2 := F0 m 31 ls [.int (nI n0), .int 0, .ref q, .int 0, .ref arr]) (rfl) ?_
  refine lv_iload_n hx hb d_AR_copyOf1_31 rfl (lv_at hl 2 rfl) ?_
  refine va_mmin hx hb (hml.trans hl.1.symm) hown (hG _ gm343) (hG _ gm250) (hG _ gm19) (hG _ gm251) (Nat.le_of_ble_eq_true rfl) (Nat.le_of_ble_eq_true rfl) (by show 0 + 1 ≤ 1; omega) (by show 0 + n1 ≤ 73; omega) d_AR_copyOf1_32 ?_
  refine W.eq (g2 := F0 m 35 ls [.int (nI n0), .int 0, .ref q, .int 0, .ref arr]) (by rw [li_min (by omega) (by omega)]) ?_
  refine fh_copyM hx hb (hml.trans hl.1.symm) hown (hG _ gm344) (hG _ gm239) (hG _ gm238) (hG _ gm16) hK hP hS 2 2 k_4 k_5 rfl rfl (by decide) (by decide) (nI_pos (by omega)) (by rw [sb_cl0, nI_clamp (by omega)]; omega) (by rw [sb_cl0, nI_clamp (by omega)]; omega) (fun i hi y hy => ?_) (Nat.le_of_ble_eq_true rfl) (Nat.le_of_ble_eq_true rfl) d_AR_copyOf1_35 (fun H locs hP hS => ?_)
  · rw [sb_cl0, Nat.zero_add] at hy
    rw [nI_clamp (by omega)] at hi
    have z := hE i hi y hy
    exact EO.any hZ hK hP (z.up (fun hx9 => by rw [eh_3]; exact va_up_ne _ _ hx9) hf_1)
  rw [sb_cl0, nI_clamp (by omega)] at hP
  refine lv_aload_n hx hb d_AR_copyOf1_38 rfl (lv_at hl 0 rfl) ?_
  refine fh_aret hx hb hr (Or.inr ⟨_, rfl⟩) (Or.inr ⟨_, rfl⟩) hlocks (Nat.le_of_ble_eq_true rfl) (by show 0 + n1 ≤ 73; omega) hP hS ⟨q, rfl, hf_1, ?_⟩ d_AR_copyOf1_39
  rw [eh_3, bx_uu]

set_option maxHeartbeats 4000000 in
set_option maxRecDepth 100000 in
theorem c_AR_copyOf0 (l : Launch) (E : fh_E) (h : fh_H) (arr n0 n1 : Nat) (f : Nat → Option Nat) (hr0 : h arr = some (.inl (fh_cO E, n0, .inr (.inr (.inr (.inr f)))))) (h01 : n0 ≤ n1) (h73 : n1 ≤ 73) (hE : ∀ i, i < n0 → ∀ y, f i = some y → EO h y) : fh_Met l y_AR_copyOf0 w_AR_copyOf0 ({ frames := 2, cells := 1, slots := 73, locals := 83 }) E [.ref arr, .int (nI n1)] h (fun r h1 => ∃ q, r = some (.ref q) ∧ h q = none ∧ h1 = va_up h q (some (.inl (fh_cO E, n1, .inr (.inr (.inr (.inr (va_cpy f (fun _ => none) 0 0 n0)))))))) 1 73 := by
  refine fh_ofW (cc := b_AR_copyOf0) (maxL := 2) (ret := (some (.array (.object "java/lang/Object")))) (by decide) rfl (Nat.le_of_ble_eq_true rfl) ?_
  intro p e s m below meth c A ls hx hb hr hml hown hts hlocks hname hnoh hadm hA hK hZ hP hS hl
  have hG : ∀ w ∈ G, w.before _ s = true := fun w hw => hts w (List.mem_cons_of_mem _ hw)
  have hown : s.vm.findClass R_AR = some m.cls := hown
  have hl : lv_has ls 2 [(0, .ref arr), (1, .int (nI n1))] := hl
  refine lv_aload_n hx hb d_AR_copyOf0_0 rfl (lv_at hl 0 rfl) ?_
  refine lv_iload_n hx hb d_AR_copyOf0_1 rfl (lv_at hl 1 rfl) ?_
  refine lv_aload_n hx hb d_AR_copyOf0_2 rfl (lv_at hl 0 rfl) ?_
  refine va_getC (C := fh_es) hx hb (hml.trans hl.1.symm) hown (hG _ gm322) hZ.2.2.2.2.1.use (hG _ gm898) (hG _ gm323) (hG _ gm336) hZ.2.2.1 (li_cls hK hP hr0) (Nat.le_of_ble_eq_true rfl) (Nat.le_of_ble_eq_true rfl) d_AR_copyOf0_3 ?_
  refine fh_callS (y := y_AR_copyOf1) (bytes := b_AR_copyOf1) (maxL := 4) (ret := (some (.array (.object "java/lang/Object")))) (index := 300) (As := [.ref arr, .int (nI n1), .ref (fh_mi E)]) (rest := []) ⟨hx, hb, hml, hown, hG⟩ (c_AR_copyOf1 l E h arr n0 n1 f hr0 h01 h73 hE) ⟨callB_of 3 hG (gB gm339) rfl rfl rfl (hG _ gm20) (hG _ gm337) hdy_AR_copyOf1 ⟨Nat.le_of_ble_eq_true rfl, Nat.le_of_ble_eq_true rfl⟩, hG _ gm338⟩ hK hZ hP hS hA rfl hl.1 rfl (Nat.le_of_ble_eq_true rfl) d_AR_copyOf0_6 ⟨Nat.le_of_ble_eq_true rfl, Nat.le_of_ble_eq_true rfl⟩ (fun r h1 H locs hq9 hP hS => ?_)
  obtain ⟨q, rfl, hf1, e9⟩ := hq9
  refine W.eq (g2 := F0 m 9 ls [.ref q]) rfl ?_
  exact fh_aret hx hb hr (Or.inr ⟨_, rfl⟩) (Or.inr ⟨_, rfl⟩) hlocks (Nat.le_of_ble_eq_true rfl) (Nat.le_of_ble_eq_true rfl) hP hS ⟨q, rfl, hf1, e9⟩ d_AR_copyOf0_9

set_option maxHeartbeats 4000000 in
set_option maxRecDepth 100000 in
theorem c_AL_grow1_ed (l : Launch) (E : fh_E) (h : fh_H) (al : Nat) (sz md : Int32) (k : Nat) (hk : k ≤ 10) (ha : h al = some (.inr (0, [.ref (fh_ed E), .int sz, .int md]))) : fh_Met l y_AL_grow1 w_AL_grow1 ({ frames := 3, cells := 1, slots := 73, locals := 104 }) E [.ref al, .int (nI k)] h (fun r h1 => ∃ q, r = some (.ref q) ∧ h q = none ∧ h1 = va_up (va_up h q (some (.inl (fh_cO E, 10, .inr (.inr (.inr (.inr (fun _ => none)))))))) al (some (.inr (0, [.ref q, .int sz, .int md])))) 1 73 := by
  refine fh_ofW (cc := b_AL_grow1) (maxL := 4) (ret := (some (.array (.object "java/lang/Object")))) (by decide) rfl (Nat.le_of_ble_eq_true rfl) ?_
  intro p e s m below meth c A ls hx hb hr hml hown hts hlocks hname hnoh hadm hA hK hZ hP hS hl
  have hG : ∀ w ∈ G, w.before _ s = true := fun w hw => hts w (List.mem_cons_of_mem _ hw)
  have hown : s.vm.findClass R_AL = some m.cls := hown
  have hl : lv_has ls 4 [(0, .ref al), (1, .int (nI k))] := hl
  refine lv_aload_n hx hb d_AL_grow1_0 rfl (lv_at hl 0 rfl) ?_
  refine fh_get hx hb hG C_AL iG_AL hown hK hP ha 0 (by decide) gm51 rfl d_AL_grow1_1 ?_
  refine va_tlen hx hb hZ.2.1 hS (v := 0) rfl d_AL_grow1_4 ?_
  refine lv_istore_n (lv' := [(2, .int 0), (0, .ref al), (1, .int (nI k))]) hx hb d_AL_grow1_5 rfl hl (by decide) rfl (fun ls hl => ?_)
  refine lv_iload_n hx hb d_AL_grow1_6 rfl (lv_at hl 0 rfl) ?_
  refine lv_if_gt (tgt := 20) hx hb d_AL_grow1_7 (by decide) (fun c_1 => ?_) (fun c_1 => ?_)
  · skip
    exact absurd c_1 (by decide)
  · skip
    refine lv_aload_n hx hb d_AL_grow1_10 rfl (lv_at hl 1 rfl) ?_
    refine fh_get hx hb hG C_AL iG_AL hown hK hP ha 0 (by decide) gm51 rfl d_AL_grow1_11 ?_
    refine va_gets hx hb hZ.1 hS hown (hG _ gm49) (fun _ z => z) d_AL_grow1_14 ?_
    refine lv_acmp_eq (rx := some (fh_ed E)) (ry := some (fh_ed E)) (tgt := 45) hx hb d_AL_grow1_17 (by decide) (fun _ => ?_) (fun c_0 => absurd rfl c_0)
    refine lv_aload_n hx hb d_AL_grow1_45 rfl (lv_at hl 1 rfl) ?_
    refine lv_bipush (v := 10) hx hb d_AL_grow1_46 (by decide) ?_
    refine lv_iload_n hx hb d_AL_grow1_48 rfl (lv_at hl 2 rfl) ?_
    refine va_mmax hx hb (hml.trans hl.1.symm) hown (hG _ gm345) (hG _ gm313) (hG _ gm19) (hG _ gm314) (Nat.le_of_ble_eq_true rfl) (Nat.le_of_ble_eq_true rfl) (Nat.le_of_ble_eq_true rfl) (Nat.le_of_ble_eq_true rfl) d_AL_grow1_49 ?_
    refine W.eq (g2 := F0 m 52 ls [.int 10, .ref al]) (by rw [li_max10 hk]) ?_
    refine fh_newq hx hb hown (hG _ gm346) hZ.2.2.2.1 hK hP hS hA 2 rfl (N' := 10) (by decide) (by decide) (by decide) (Nat.le_of_ble_eq_true rfl) (Nat.le_of_ble_eq_true rfl) d_AL_grow1_52 (fun q H hf_2 hP hS => ?_)
    obtain ⟨h_3, eh_4⟩ : ∃ z : fh_H, z = va_up h q (some (.inl (fh_cO E, 10, .inr (.inr (.inr (.inr (fun _ => none))))))) := ⟨_, rfl⟩
    have hP : fh_P E.1 vwCl A h_3 H := by rw [eh_4]; exact hP
    have k_5 : h_3 al = some (.inr (0, [.ref (fh_ed E), .int sz, .int md])) := by rw [eh_4]; exact fh_up ha (fh_neF ha hf_2)
    have k_6 : h_3 q = some (.inl (fh_cO E, 10, .inr (.inr (.inr (.inr (fun _ => none)))))) := by rw [eh_4]; exact va_up_self _ _ _
    refine lv_dup_x1 hx hb d_AL_grow1_55 rfl rfl ?_
    refine fh_put hx hb hG C_AL iG_AL hown hK hP hS k_5 0 (by decide) gm51 rfl (v := .ref q) rfl rfl (Nat.le_of_ble_eq_true rfl) d_AL_grow1_56 (fun H locs hP hS => ?_)
    obtain ⟨h_7, eh_8⟩ : ∃ z : fh_H, z = va_up h_3 al (some (.inr (0, [.ref q, .int sz, .int md]))) := ⟨_, rfl⟩
    have hP : fh_P E.1 vwCl A h_7 H := by rw [eh_8]; exact hP
    have k_9 : h_7 q = some (.inl (fh_cO E, 10, .inr (.inr (.inr (.inr (fun _ => none)))))) := by rw [eh_8]; exact fh_up k_6 (fh_neA k_6 k_5)
    have k_10 : h_7 al = some (.inr (0, [.ref q, .int sz, .int md])) := by rw [eh_8]; exact va_up_self _ _ _
    refine fh_aret hx hb hr (Or.inr ⟨_, rfl⟩) (Or.inr ⟨_, rfl⟩) hlocks (Nat.le_of_ble_eq_true rfl) (Nat.le_of_ble_eq_true rfl) hP hS ⟨q, rfl, hf_2, ?_⟩ d_AL_grow1_59
    rw [eh_8, eh_4]

set_option maxHeartbeats 4000000 in
set_option maxRecDepth 100000 in
theorem c_AL_grow1_ar (l : Launch) (E : fh_E) (h : fh_H) (al arr cap : Nat) (f : Nat → Option Nat) (sz md : Int32) (h2 : 2 ≤ cap) (h48 : cap ≤ 48) (ha : h al = some (.inr (0, [.ref arr, .int sz, .int md]))) (hr0 : h arr = some (.inl (fh_cO E, cap, .inr (.inr (.inr (.inr f)))))) (hE : ∀ i, i < cap → ∀ y, f i = some y → EO h y) : fh_Met l y_AL_grow1 w_AL_grow1 ({ frames := 3, cells := 1, slots := 73, locals := 104 }) E [.ref al, .int (nI (cap + 1))] h (fun r h1 => ∃ q, r = some (.ref q) ∧ h q = none ∧ h1 = va_up (va_up h q (some (.inl (fh_cO E, cap + cap / 2, .inr (.inr (.inr (.inr (va_cpy f (fun _ => none) 0 0 cap)))))))) al (some (.inr (0, [.ref q, .int sz, .int md])))) 1 73 := by
  refine fh_ofW (cc := b_AL_grow1) (maxL := 4) (ret := (some (.array (.object "java/lang/Object")))) (by decide) rfl (Nat.le_of_ble_eq_true rfl) ?_
  intro p e s m below meth c A ls hx hb hr hml hown hts hlocks hname hnoh hadm hA hK hZ hP hS hl
  have hG : ∀ w ∈ G, w.before _ s = true := fun w hw => hts w (List.mem_cons_of_mem _ hw)
  have hown : s.vm.findClass R_AL = some m.cls := hown
  have hl : lv_has ls 4 [(0, .ref al), (1, .int (nI (cap + 1)))] := hl
  refine lv_aload_n hx hb d_AL_grow1_0 rfl (lv_at hl 0 rfl) ?_
  refine fh_get hx hb hG C_AL iG_AL hown hK hP ha 0 (by decide) gm51 rfl d_AL_grow1_1 ?_
  refine fh_alen hx hb hK hP 2 hr0 rfl rfl d_AL_grow1_4 ?_
  refine W.eq (g2 := F0 m 5 ls [.int (nI cap)]) (rfl) ?_
  refine lv_istore_n (lv' := [(2, .int (nI cap)), (0, .ref al), (1, .int (nI (cap + 1)))]) hx hb d_AL_grow1_5 rfl hl (by decide) rfl (fun ls hl => ?_)
  refine lv_iload_n hx hb d_AL_grow1_6 rfl (lv_at hl 0 rfl) ?_
  refine lv_if_gt (tgt := 20) hx hb d_AL_grow1_7 (by decide) (fun c_1 => ?_) (fun c_1 => ?_)
  · skip
    refine lv_iload_n hx hb d_AL_grow1_20 rfl (lv_at hl 0 rfl) ?_
    refine lv_iload_n hx hb d_AL_grow1_21 rfl (lv_at hl 2 rfl) ?_
    refine lv_iload_n hx hb d_AL_grow1_22 rfl (lv_at hl 0 rfl) ?_
    refine lv_isub hx hb d_AL_grow1_23 ?_
    refine lv_iload_n hx hb d_AL_grow1_24 rfl (lv_at hl 0 rfl) ?_
    refine lv_iconst (v := 1) hx hb d_AL_grow1_25 (by decide) ?_
    refine lv_ishr hx hb d_AL_grow1_26 ?_
    refine W.eq (g2 := F0 m 27 ls [.int (nI (cap / 2)), .int (nI 1), .int (nI cap)]) (by rw [li_half (by omega), li_one]) ?_
    refine fh_callS (y := y_AS_newLength) (bytes := b_AS_newLength) (maxL := 4) (ret := (some .int)) (index := 73) (As := [.int (nI cap), .int (nI 1), .int (nI (cap / 2))]) (rest := []) ⟨hx, hb, hml, hown, hG⟩ (c_AS_newLength l E h cap (cap / 2) h2 (by omega) (by omega)) ⟨callB_of 3 hG (gB gm311) rfl rfl rfl (hG _ gm18) (hG _ gm309) hdy_AS_newLength ⟨Nat.le_of_ble_eq_true rfl, Nat.le_of_ble_eq_true rfl⟩, hG _ gm310⟩ hK hZ hP hS hA rfl hl.1 rfl (Nat.le_of_ble_eq_true rfl) d_AL_grow1_27 ⟨Nat.le_of_ble_eq_true rfl, Nat.le_of_ble_eq_true rfl⟩ (fun r h1 H locs hq9 hP hS => ?_)
    obtain ⟨rfl, e9⟩ := hq9
    rw [e9] at hP
    refine W.eq (g2 := F0 m 30 ls [.int (nI (cap + max 1 (cap / 2)))]) rfl ?_
    refine W.eq (g2 := F0 m 30 ls [.int (nI (cap + cap / 2))]) (by rw [show max 1 (cap / 2) = cap / 2 by omega]) ?_
    refine lv_istore_n (lv' := [(3, .int (nI (cap + cap / 2))), (2, .int (nI cap)), (0, .ref al), (1, .int (nI (cap + 1)))]) hx hb d_AL_grow1_30 rfl hl (by decide) rfl (fun ls hl => ?_)
    refine lv_aload_n hx hb d_AL_grow1_31 rfl (lv_at hl 2 rfl) ?_
    refine lv_aload_n hx hb d_AL_grow1_32 rfl (lv_at hl 2 rfl) ?_
    refine fh_get hx hb hG C_AL iG_AL hown hK hP ha 0 (by decide) gm51 rfl d_AL_grow1_33 ?_
    refine lv_iload_n hx hb d_AL_grow1_36 rfl (lv_at hl 0 rfl) ?_
    refine fh_callS (y := y_AR_copyOf0) (bytes := b_AR_copyOf0) (maxL := 2) (ret := (some (.array (.object "java/lang/Object")))) (index := 66) (As := [.ref arr, .int (nI (cap + cap / 2))]) (rest := [.ref al]) ⟨hx, hb, hml, hown, hG⟩ (c_AR_copyOf0 l E h arr cap (cap + cap / 2) f hr0 (by omega) (by omega) hE) ⟨callB_of 2 hG (gB gm321) rfl rfl rfl (hG _ gm20) (hG _ gm319) hdy_AR_copyOf0 ⟨Nat.le_of_ble_eq_true rfl, Nat.le_of_ble_eq_true rfl⟩, hG _ gm320⟩ hK hZ hP hS hA rfl hl.1 rfl (Nat.le_of_ble_eq_true rfl) d_AL_grow1_37 ⟨Nat.le_of_ble_eq_true rfl, Nat.le_of_ble_eq_true rfl⟩ (fun r h1 H locs hq9 hP hS => ?_)
    obtain ⟨q, rfl, hf1, e9⟩ := hq9
    rw [e9] at hP
    refine W.eq (g2 := F0 m 40 ls [.ref q, .ref al]) rfl ?_
    obtain ⟨h_2, eh_3⟩ : ∃ z : fh_H, z = va_up h q (some (.inl (fh_cO E, cap + cap / 2, .inr (.inr (.inr (.inr (va_cpy f (fun _ => none) 0 0 cap))))))) := ⟨_, rfl⟩
    have hP : fh_P E.1 vwCl A h_2 H := by rw [eh_3]; exact hP
    have k_4 : h_2 al = some (.inr (0, [.ref arr, .int sz, .int md])) := by rw [eh_3]; exact fh_up ha (fh_neF ha hf1)
    have k_5 : h_2 arr = some (.inl (fh_cO E, cap, .inr (.inr (.inr (.inr f))))) := by rw [eh_3]; exact fh_up hr0 (fh_neF hr0 hf1)
    have k_6 : h_2 q = some (.inl (fh_cO E, cap + cap / 2, .inr (.inr (.inr (.inr (va_cpy f (fun _ => none) 0 0 cap)))))) := by rw [eh_3]; exact va_up_self _ _ _
    refine lv_dup_x1 hx hb d_AL_grow1_40 rfl rfl ?_
    refine fh_put hx hb hG C_AL iG_AL hown hK hP hS k_4 0 (by decide) gm51 rfl (v := .ref q) rfl rfl (Nat.le_of_ble_eq_true rfl) d_AL_grow1_41 (fun H locs hP hS => ?_)
    obtain ⟨h_7, eh_8⟩ : ∃ z : fh_H, z = va_up h_2 al (some (.inr (0, [.ref q, .int sz, .int md]))) := ⟨_, rfl⟩
    have hP : fh_P E.1 vwCl A h_7 H := by rw [eh_8]; exact hP
    have k_9 : h_7 arr = some (.inl (fh_cO E, cap, .inr (.inr (.inr (.inr f))))) := by rw [eh_8]; exact fh_up k_5 (fh_neA k_5 k_4)
    have k_10 : h_7 q = some (.inl (fh_cO E, cap + cap / 2, .inr (.inr (.inr (.inr (va_cpy f (fun _ => none) 0 0 cap)))))) := by rw [eh_8]; exact fh_up k_6 (fh_neA k_6 k_4)
    have k_11 : h_7 al = some (.inr (0, [.ref q, .int sz, .int md])) := by rw [eh_8]; exact va_up_self _ _ _
    refine fh_aret hx hb hr (Or.inr ⟨_, rfl⟩) (Or.inr ⟨_, rfl⟩) hlocks (Nat.le_of_ble_eq_true rfl) (Nat.le_of_ble_eq_true rfl) hP hS ⟨q, rfl, hf1, ?_⟩ d_AL_grow1_44
    rw [eh_8, eh_3]
  · skip
    exact absurd (show nI 0 < nI cap from nI_lt (by omega) (by omega)) c_1
end
section
/-! THE JDK's LIST: what it answers and how it changes. -/
section FHX
variable {p : Program} {l : Launch} {e : Env} {R : Room} {s : State} {m : MethodId} {args : Array Value} {below : List Frame} {meth : Method} {c : Code} {H : Heap} {locs : List Loc} {cells slots : Nat} {Q : State → Prop}
variable {cc : ByteArray} {pc : Nat} {ls : Array Slot} {rest : List Value} {D : va_G} {cl : List vw_C} {A : Nat → Prop} {a : Nat} {tys : List (ClassId × FieldType)} {h : fh_H} {H0 : Heap}
theorem fh_astqM (hexec : p.tables.exec = Jvm.exec) (hb : c.code = cc) (hK : va_K D cl tys s) (hP : fh_P D cl A h H) (hS : va_S A H0 H locs) (t0 : Nat) {E : String} {cA : ClassId} {n v : Nat} {f : Nat → Option Nat} (ha : h a = some (.inl (cA, n, .inr (.inr (.inr (.inr f)))))) (ht : tys[t0]? = some (cA, .object E)) (hr : va_Any E s H v) {i : Int32} (hin : vp_in i n) (hdg : decode cc pc = .ok (.aastore, 1))
    (kk : ∀ (H1 : Heap) (locs1 : List Loc), fh_P D cl A (va_up h a (some (.inl (cA, n, .inr (.inr (.inr (.inr (va_up f i.toNatClampNeg (some v))))))))) H1 → va_S A H0 H1 locs1 → W p l e R s m args below meth c H1 locs1 cells slots Q (F0 m (pc + 1) ls rest)) : W p l e R s m args below meth c H locs cells slots Q (F0 m pc ls (.ref v :: .int i :: .ref a :: rest)) := by
  obtain ⟨w, h1, h2, h3⟩ := hP
  obtain ⟨q0, hq⟩ := (h3 a _).mp ha
  exact va_astqM hexec hb hK h1 h2 hS q0 t0 hq ht hr hin hdg (fun H1 locs1 g1 g2 g3 => kk H1 locs1 ⟨_, g1, g2, h3.set h2 hq⟩ g3)
end FHX
theorem LI.frame {E : fh_E} {h h1 : fh_H} {al arr : Nat} {xs : List Nat} (hL : LI E h al arr xs) (ha : h1 al = h al) (hr : (∃ x, h arr = some x) → h1 arr = h arr) : LI E h1 al arr xs := by
  obtain ⟨md, cap, f, k1, k2, k3, k4, k5⟩ := hL
  refine ⟨md, cap, f, ha.trans k1, k2, k3, k4, ?_⟩
  rcases k5 with k5 | ⟨k5, k6⟩
  · exact Or.inl k5
  · exact Or.inr ⟨k5, (hr ⟨_, k6⟩).trans k6⟩
theorem LI.al {E : fh_E} {h : fh_H} {al arr : Nat} {xs : List Nat} (hL : LI E h al arr xs) : ∃ md, h al = some (.inr (0, [.ref arr, .int (nI xs.length), .int md])) := by
  obtain ⟨md, cap, f, k1, k2, k3, k4, k5⟩ := hL
  exact ⟨md, k1⟩
theorem LI.md {E : fh_E} {h : fh_H} {al arr : Nat} {xs : List Nat} (hL : LI E h al arr xs) (md' : Int32) : LI E (va_up h al (some (.inr (0, [.ref arr, .int (nI xs.length), .int md'])))) al arr xs := by
  obtain ⟨md, cap, f, k1, k2, k3, k4, k5⟩ := hL
  refine ⟨md', cap, f, va_up_self _ _ _, k2, k3, k4, ?_⟩
  rcases k5 with k5 | ⟨k5, k6⟩
  · exact Or.inl k5
  · exact Or.inr ⟨k5, fh_up k6 (fh_neA k6 k1)⟩
def Dm (h h1 : fh_H) : Prop := ∀ b, h1 b = none → h b = none
theorem dm_up {h h1 : fh_H} {a : Nat} {e : va_E} (q : h1 = va_up h a (some e)) : Dm h h1 := fun b hb => by
  subst q
  by_cases c : b = a
  · rw [c, va_up_self] at hb; cases hb
  · rw [va_up_ne _ _ c] at hb; exact hb
theorem Dm.trans {h h1 h2 : fh_H} (a : Dm h h1) (b : Dm h1 h2) : Dm h h2 := fun x hx => a x (b x hx)
def LIadd (E : fh_E) (h h1 : fh_H) (al arr : Nat) (xs : List Nat) (q : Nat) : Prop := ∃ arr', LI E h1 al arr' (xs ++ [q]) ∧ (∀ b, b ≠ al → b ≠ arr → b ≠ arr' → h1 b = h b) ∧ (arr' = arr ∨ h arr' = none) ∧ Dm h h1
/-- one more in an array that has room -/
theorem LI.put {E : fh_E} {h : fh_H} {al arr cap q : Nat} {f : Nat → Option Nat} {xs : List Nat} {md : Int32} (hlt : xs.length < cap) (hcap : cap ≤ 73) (h2 : 2 ≤ cap) (hf : ∀ i, i < xs.length → f i = xs[i]?) (ha : h al = some (.inr (0, [.ref arr, .int (nI (xs.length + 1)), .int md]))) (hr : h arr = some (.inl (fh_cO E, cap, .inr (.inr (.inr (.inr (va_up f xs.length (some q)))))))) : LI E h al arr (xs ++ [q]) := by
  refine ⟨md, cap, _, by rw [ha]; simp, by simp; omega, hcap, ?_, Or.inr ⟨h2, hr⟩⟩
  intro i hi
  simp at hi
  by_cases c : i = xs.length
  · subst c
    rw [va_up_self]
    simp
  · rw [va_up_ne _ _ c, List.getElem?_append_left (by omega)]
    exact hf i (by omega)
theorem li_elems {h : fh_H} {f : Nat → Option Nat} {xs : List Nat} {cap : Nat} (hf : ∀ i, i < xs.length → f i = xs[i]?) (hE : ∀ x ∈ xs, EO h x) (hc : cap = xs.length) : ∀ i, i < cap → ∀ y, f i = some y → EO h y := by
  intro i hi y hy
  rw [hf i (by omega)] at hy
  exact hE y (List.mem_of_getElem? hy)
theorem EO.upF {h h1 : fh_H} {y q al : Nat} {fs : List Value} (z : EO h y) (hu : y ≠ q → y ≠ al → h1 y = h y) (hq : h q = none) (ha : h al = some (.inr (0, fs))) : EO h1 y := by
  rcases z with ⟨gs, z⟩ | ⟨gs, z⟩
  · exact Or.inl ⟨gs, (hu (fh_neF z hq) (fh_ne z ha (by decide))).trans z⟩
  · exact Or.inr ⟨gs, (hu (fh_neF z hq) (fh_ne z ha (by decide))).trans z⟩
theorem EO.upO {h h1 : fh_H} {y al : Nat} {fs : List Value} (z : EO h y) (hu : y ≠ al → h1 y = h y) (ha : h al = some (.inr (0, fs))) : EO h1 y := by
  rcases z with ⟨gs, z⟩ | ⟨gs, z⟩
  · exact Or.inl ⟨gs, (hu (fh_ne z ha (by decide))).trans z⟩
  · exact Or.inr ⟨gs, (hu (fh_ne z ha (by decide))).trans z⟩

set_option maxHeartbeats 4000000 in
set_option maxRecDepth 100000 in
theorem c_AL_grow0_ed (l : Launch) (E : fh_E) (h : fh_H) (al : Nat) (md : Int32) (ha : h al = some (.inr (0, [.ref (fh_ed E), .int (nI 0), .int md]))) : fh_Met l y_AL_grow0 w_AL_grow0 ({ frames := 4, cells := 1, slots := 73, locals := 127 }) E [.ref al] h (fun r h1 => ∃ q, r = some (.ref q) ∧ h q = none ∧ h1 = va_up (va_up h q (some (.inl (fh_cO E, 10, .inr (.inr (.inr (.inr (fun _ => none)))))))) al (some (.inr (0, [.ref q, .int (nI 0), .int md])))) 1 73 := by
  refine fh_ofW (cc := b_AL_grow0) (maxL := 1) (ret := (some (.array (.object "java/lang/Object")))) (by decide) rfl (Nat.le_of_ble_eq_true rfl) ?_
  intro p e s m below meth c A ls hx hb hr hml hown hts hlocks hname hnoh hadm hA hK hZ hP hS hl
  have hG : ∀ w ∈ G, w.before _ s = true := fun w hw => hts w (List.mem_cons_of_mem _ hw)
  have hown : s.vm.findClass R_AL = some m.cls := hown
  have hl : lv_has ls 1 [(0, .ref al)] := hl
  refine lv_aload_n hx hb d_AL_grow0_0 rfl (lv_at hl 0 rfl) ?_
  refine lv_aload_n hx hb d_AL_grow0_1 rfl (lv_at hl 0 rfl) ?_
  refine fh_get hx hb hG C_AL iG_AL hown hK hP ha 1 (by decide) gm52 rfl d_AL_grow0_2 ?_
  refine lv_iconst (v := 1) hx hb d_AL_grow0_5 (by decide) ?_
  refine lv_iadd hx hb d_AL_grow0_6 ?_
  refine W.eq (g2 := F0 m 7 ls [.int (nI 1), .ref al]) (by rw [nI_1]) ?_
  refine fh_callV (C := R_AL) (y := y_AL_grow1) (bytes := b_AL_grow1) (maxL := 4) (ret := (some (.array (.object "java/lang/Object")))) (index := 69) (As := [.int (nI 1)]) (rest := []) ⟨hx, hb, hml, hown, hG⟩ (c_AL_grow1_ed l E h al (nI 0) md 1 (by omega) ha) (cwV 1 hG (gV gm305 gm307 gs_AL_grow1 gm5 gm308) rfl rfl rfl ⟨rfl, hdy_AL_grow1⟩ ⟨Nat.le_of_ble_eq_true rfl, Nat.le_of_ble_eq_true rfl⟩) C_AL.1 ha hK hZ hP hS hA rfl hl.1 rfl (Nat.le_of_ble_eq_true rfl) d_AL_grow0_7 ⟨Nat.le_of_ble_eq_true rfl, Nat.le_of_ble_eq_true rfl⟩ (fun r h1 H locs hq9 hP hS => ?_)
  obtain ⟨q, rfl, hf1, e9⟩ := hq9
  refine W.eq (g2 := F0 m 10 ls [.ref q]) rfl ?_
  exact fh_aret hx hb hr (Or.inr ⟨_, rfl⟩) (Or.inr ⟨_, rfl⟩) hlocks (Nat.le_of_ble_eq_true rfl) (Nat.le_of_ble_eq_true rfl) hP hS ⟨q, rfl, hf1, e9⟩ d_AL_grow0_10

set_option maxHeartbeats 4000000 in
set_option maxRecDepth 100000 in
theorem c_AL_grow0_ar (l : Launch) (E : fh_E) (h : fh_H) (al arr cap : Nat) (f : Nat → Option Nat) (md : Int32) (h2 : 2 ≤ cap) (h48 : cap ≤ 48) (ha : h al = some (.inr (0, [.ref arr, .int (nI cap), .int md]))) (hr0 : h arr = some (.inl (fh_cO E, cap, .inr (.inr (.inr (.inr f)))))) (hE : ∀ i, i < cap → ∀ y, f i = some y → EO h y) : fh_Met l y_AL_grow0 w_AL_grow0 ({ frames := 4, cells := 1, slots := 73, locals := 127 }) E [.ref al] h (fun r h1 => ∃ q, r = some (.ref q) ∧ h q = none ∧ h1 = va_up (va_up h q (some (.inl (fh_cO E, cap + cap / 2, .inr (.inr (.inr (.inr (va_cpy f (fun _ => none) 0 0 cap)))))))) al (some (.inr (0, [.ref q, .int (nI cap), .int md])))) 1 73 := by
  refine fh_ofW (cc := b_AL_grow0) (maxL := 1) (ret := (some (.array (.object "java/lang/Object")))) (by decide) rfl (Nat.le_of_ble_eq_true rfl) ?_
  intro p e s m below meth c A ls hx hb hr hml hown hts hlocks hname hnoh hadm hA hK hZ hP hS hl
  have hG : ∀ w ∈ G, w.before _ s = true := fun w hw => hts w (List.mem_cons_of_mem _ hw)
  have hown : s.vm.findClass R_AL = some m.cls := hown
  have hl : lv_has ls 1 [(0, .ref al)] := hl
  refine lv_aload_n hx hb d_AL_grow0_0 rfl (lv_at hl 0 rfl) ?_
  refine lv_aload_n hx hb d_AL_grow0_1 rfl (lv_at hl 0 rfl) ?_
  refine fh_get hx hb hG C_AL iG_AL hown hK hP ha 1 (by decide) gm52 rfl d_AL_grow0_2 ?_
  refine lv_iconst (v := 1) hx hb d_AL_grow0_5 (by decide) ?_
  refine lv_iadd hx hb d_AL_grow0_6 ?_
  refine W.eq (g2 := F0 m 7 ls [.int (nI (cap + 1)), .ref al]) (by rw [nI_1]) ?_
  refine fh_callV (C := R_AL) (y := y_AL_grow1) (bytes := b_AL_grow1) (maxL := 4) (ret := (some (.array (.object "java/lang/Object")))) (index := 69) (As := [.int (nI (cap + 1))]) (rest := []) ⟨hx, hb, hml, hown, hG⟩ (c_AL_grow1_ar l E h al arr cap f (nI cap) md h2 h48 ha hr0 hE) (cwV 1 hG (gV gm305 gm307 gs_AL_grow1 gm5 gm308) rfl rfl rfl ⟨rfl, hdy_AL_grow1⟩ ⟨Nat.le_of_ble_eq_true rfl, Nat.le_of_ble_eq_true rfl⟩) C_AL.1 ha hK hZ hP hS hA rfl hl.1 rfl (Nat.le_of_ble_eq_true rfl) d_AL_grow0_7 ⟨Nat.le_of_ble_eq_true rfl, Nat.le_of_ble_eq_true rfl⟩ (fun r h1 H locs hq9 hP hS => ?_)
  obtain ⟨q, rfl, hf1, e9⟩ := hq9
  refine W.eq (g2 := F0 m 10 ls [.ref q]) rfl ?_
  exact fh_aret hx hb hr (Or.inr ⟨_, rfl⟩) (Or.inr ⟨_, rfl⟩) hlocks (Nat.le_of_ble_eq_true rfl) (Nat.le_of_ble_eq_true rfl) hP hS ⟨q, rfl, hf1, e9⟩ d_AL_grow0_10

set_option maxHeartbeats 4000000 in
set_option maxRecDepth 100000 in
theorem c_AL_add1 (l : Launch) (E : fh_E) (h : fh_H) (al arr : Nat) (xs : List Nat) (q0 : Nat) (hL : LI E h al arr xs) (h48 : xs.length ≤ 48) (hE : ∀ x ∈ xs, EO h x) (he : EO h q0) : fh_Met l y_AL_add1 w_AL_add1 ({ frames := 5, cells := 1, slots := 73, locals := 147 }) E [.ref al, .ref q0, .ref arr, .int (nI xs.length)] h (fun r h1 => r = none ∧ LIadd E h h1 al arr xs q0) 1 73 := by
  refine fh_ofW (cc := b_AL_add1) (maxL := 4) (ret := none) (by decide) rfl (Nat.le_of_ble_eq_true rfl) ?_
  intro p e s m below meth c A ls hx hb hr hml hown hts hlocks hname hnoh hadm hA hK hZ hP hS hl
  have hG : ∀ w ∈ G, w.before _ s = true := fun w hw => hts w (List.mem_cons_of_mem _ hw)
  have hown : s.vm.findClass R_AL = some m.cls := hown
  have hl : lv_has ls 4 [(0, .ref al), (1, .ref q0), (2, .ref arr), (3, .int (nI xs.length))] := hl
  obtain ⟨md, cap, f, ha, hlen, hcap, hf, hr0⟩ := hL
  rcases hr0 with ⟨ea, ec⟩ | ⟨h2, hr0⟩
  · subst ea
    have hz : xs.length = 0 := by omega
    rw [hz] at ha
    have hl : lv_has ls 4 [(0, .ref al), (1, .ref q0), (2, .ref (fh_ed E)), (3, .int (nI 0))] := by rw [hz] at hl; exact hl
    refine lv_iload_n hx hb d_AL_add1_0 rfl (lv_at hl 3 rfl) ?_
    refine lv_aload_n hx hb d_AL_add1_1 rfl (lv_at hl 2 rfl) ?_
    refine va_tlen hx hb hZ.2.1 hS (v := 0) rfl d_AL_add1_2 ?_
    refine lv_icmp_ne (tgt := 11) hx hb d_AL_add1_3 (by decide) (fun c_1 => ?_) (fun c_1 => ?_)
    · skip
      exact absurd nI_0 c_1
    · skip
      refine lv_aload_n hx hb d_AL_add1_6 rfl (lv_at hl 0 rfl) ?_
      refine fh_callV (C := R_AL) (y := y_AL_grow0) (bytes := b_AL_grow0) (maxL := 1) (ret := (some (.array (.object "java/lang/Object")))) (index := 129) (As := []) (rest := []) ⟨hx, hb, hml, hown, hG⟩ (c_AL_grow0_ed l E h al md ha) (cwV 0 hG (gV gm301 gm303 gs_AL_grow0 gm5 gm304) rfl rfl rfl ⟨rfl, hdy_AL_grow0⟩ ⟨Nat.le_of_ble_eq_true rfl, Nat.le_of_ble_eq_true rfl⟩) C_AL.1 ha hK hZ hP hS hA rfl hl.1 rfl (Nat.le_of_ble_eq_true rfl) d_AL_add1_7 ⟨Nat.le_of_ble_eq_true rfl, Nat.le_of_ble_eq_true rfl⟩ (fun r h1 H locs hq9 hP hS => ?_)
      obtain ⟨q, rfl, hf1, e9⟩ := hq9
      rw [e9] at hP
      refine W.eq (g2 := F0 m 10 ls [.ref q]) rfl ?_
      obtain ⟨h_2, eh_3⟩ : ∃ z : fh_H, z = va_up h q (some (.inl (fh_cO E, 10, .inr (.inr (.inr (.inr (fun _ => none))))))) := ⟨_, rfl⟩
      have k_4 : h_2 al = some (.inr (0, [.ref (fh_ed E), .int (nI 0), .int md])) := by rw [eh_3]; exact fh_up ha (fh_neF ha hf1)
      have k_5 : h_2 q = some (.inl (fh_cO E, 10, .inr (.inr (.inr (.inr (fun _ => none)))))) := by rw [eh_3]; exact va_up_self _ _ _
      obtain ⟨h_6, eh_7⟩ : ∃ z : fh_H, z = va_up h_2 al (some (.inr (0, [.ref q, .int (nI 0), .int md]))) := ⟨_, rfl⟩
      have hP : fh_P E.1 vwCl A h_6 H := by rw [eh_7, eh_3]; exact hP
      have k_8 : h_6 q = some (.inl (fh_cO E, 10, .inr (.inr (.inr (.inr (fun _ => none)))))) := by rw [eh_7]; exact fh_up k_5 (fh_neA k_5 k_4)
      have k_9 : h_6 al = some (.inr (0, [.ref q, .int (nI 0), .int md])) := by rw [eh_7]; exact va_up_self _ _ _
      refine lv_astore_n (lv' := [(2, .ref q), (0, .ref al), (1, .ref q0), (3, .int (nI 0))]) hx hb d_AL_add1_10 rfl hl (by decide) rfl (fun ls hl => ?_)
      refine lv_aload_n hx hb d_AL_add1_11 rfl (lv_at hl 0 rfl) ?_
      refine lv_iload_n hx hb d_AL_add1_12 rfl (lv_at hl 3 rfl) ?_
      refine lv_aload_n hx hb d_AL_add1_13 rfl (lv_at hl 2 rfl) ?_
      refine fh_astqM hx hb hK hP hS 2 k_8 rfl (EO.any hZ hK hP (he.upF (q := q) (al := al) (fun z1 z2 => by rw [eh_7, va_up_ne _ _ z2, eh_3, va_up_ne _ _ z1]) hf1 ha)) (vp_in_nI (by decide) (by decide)) d_AL_add1_14 (fun H locs hP hS => ?_)
      rw [nI_clamp (by decide)] at hP
      obtain ⟨h_10, eh_11⟩ : ∃ z : fh_H, z = va_up h_6 q (some (.inl (fh_cO E, 10, .inr (.inr (.inr (.inr (va_up (fun _ => none) 0 (some q0)))))))) := ⟨_, rfl⟩
      have hP : fh_P E.1 vwCl A h_10 H := by rw [eh_11]; exact hP
      have k_12 : h_10 al = some (.inr (0, [.ref q, .int (nI 0), .int md])) := by rw [eh_11]; exact fh_up k_9 (Ne.symm (fh_neA k_8 k_9))
      have k_13 : h_10 q = some (.inl (fh_cO E, 10, .inr (.inr (.inr (.inr (va_up (fun _ => none) 0 (some q0))))))) := by rw [eh_11]; exact va_up_self _ _ _
      refine lv_aload_n hx hb d_AL_add1_15 rfl (lv_at hl 1 rfl) ?_
      refine lv_iload_n hx hb d_AL_add1_16 rfl (lv_at hl 3 rfl) ?_
      refine lv_iconst (v := 1) hx hb d_AL_add1_17 (by decide) ?_
      refine lv_iadd hx hb d_AL_add1_18 ?_
      refine W.eq (g2 := F0 m 19 ls [.int (nI 1), .ref al]) (by rw [nI_1]) ?_
      refine fh_put hx hb hG C_AL iG_AL hown hK hP hS k_12 1 (by decide) gm52 rfl (v := .int (nI 1)) rfl rfl (Nat.le_of_ble_eq_true rfl) d_AL_add1_19 (fun H locs hP hS => ?_)
      obtain ⟨h_14, eh_15⟩ : ∃ z : fh_H, z = va_up h_10 al (some (.inr (0, [.ref q, .int (nI 1), .int md]))) := ⟨_, rfl⟩
      have hP : fh_P E.1 vwCl A h_14 H := by rw [eh_15]; exact hP
      have k_16 : h_14 q = some (.inl (fh_cO E, 10, .inr (.inr (.inr (.inr (va_up (fun _ => none) 0 (some q0))))))) := by rw [eh_15]; exact fh_up k_13 (fh_neA k_13 k_12)
      have k_17 : h_14 al = some (.inr (0, [.ref q, .int (nI 1), .int md])) := by rw [eh_15]; exact va_up_self _ _ _
      refine fh_vret hx hb hr hlocks (Nat.le_of_ble_eq_true rfl) (Nat.le_of_ble_eq_true rfl) hP hS ⟨rfl, q, ?_, ?_, Or.inr hf1, (dm_up eh_3).trans ((dm_up eh_7).trans ((dm_up eh_11).trans (dm_up eh_15)))⟩ d_AL_add1_22
      · exact LI.put (f := fun _ => none) (cap := 10) (md := md) (by omega) (by omega) (by omega) (fun i hi => by omega) (by rw [hz]; exact k_17) (by rw [hz]; exact k_16)
      · intro b z1 z2 z3
        rw [eh_15, va_up_ne _ _ z1, eh_11, va_up_ne _ _ z3, eh_7, va_up_ne _ _ z1, eh_3, va_up_ne _ _ z3]
  · by_cases hfull : xs.length = cap
    · subst hfull
      refine lv_iload_n hx hb d_AL_add1_0 rfl (lv_at hl 3 rfl) ?_
      refine lv_aload_n hx hb d_AL_add1_1 rfl (lv_at hl 2 rfl) ?_
      refine fh_alen hx hb hK hP 2 hr0 rfl rfl d_AL_add1_2 ?_
      refine W.eq (g2 := F0 m 3 ls [.int (nI xs.length), .int (nI xs.length)]) (rfl) ?_
      refine lv_icmp_ne (tgt := 11) hx hb d_AL_add1_3 (by decide) (fun c_18 => ?_) (fun c_18 => ?_)
      · skip
        exact absurd rfl c_18
      · skip
        refine lv_aload_n hx hb d_AL_add1_6 rfl (lv_at hl 0 rfl) ?_
        refine fh_callV (C := R_AL) (y := y_AL_grow0) (bytes := b_AL_grow0) (maxL := 1) (ret := (some (.array (.object "java/lang/Object")))) (index := 129) (As := []) (rest := []) ⟨hx, hb, hml, hown, hG⟩ (c_AL_grow0_ar l E h al arr xs.length f md h2 h48 ha hr0 (li_elems hf hE rfl)) (cwV 0 hG (gV gm301 gm303 gs_AL_grow0 gm5 gm304) rfl rfl rfl ⟨rfl, hdy_AL_grow0⟩ ⟨Nat.le_of_ble_eq_true rfl, Nat.le_of_ble_eq_true rfl⟩) C_AL.1 ha hK hZ hP hS hA rfl hl.1 rfl (Nat.le_of_ble_eq_true rfl) d_AL_add1_7 ⟨Nat.le_of_ble_eq_true rfl, Nat.le_of_ble_eq_true rfl⟩ (fun r h1 H locs hq9 hP hS => ?_)
        obtain ⟨q, rfl, hf1, e9⟩ := hq9
        rw [e9] at hP
        refine W.eq (g2 := F0 m 10 ls [.ref q]) rfl ?_
        obtain ⟨h_19, eh_20⟩ : ∃ z : fh_H, z = va_up h q (some (.inl (fh_cO E, xs.length + xs.length / 2, .inr (.inr (.inr (.inr (va_cpy f (fun _ => none) 0 0 xs.length))))))) := ⟨_, rfl⟩
        have k_21 : h_19 al = some (.inr (0, [.ref arr, .int (nI xs.length), .int md])) := by rw [eh_20]; exact fh_up ha (fh_neF ha hf1)
        have k_22 : h_19 arr = some (.inl (fh_cO E, xs.length, .inr (.inr (.inr (.inr f))))) := by rw [eh_20]; exact fh_up hr0 (fh_neF hr0 hf1)
        have k_23 : h_19 q = some (.inl (fh_cO E, xs.length + xs.length / 2, .inr (.inr (.inr (.inr (va_cpy f (fun _ => none) 0 0 xs.length)))))) := by rw [eh_20]; exact va_up_self _ _ _
        obtain ⟨h_24, eh_25⟩ : ∃ z : fh_H, z = va_up h_19 al (some (.inr (0, [.ref q, .int (nI xs.length), .int md]))) := ⟨_, rfl⟩
        have hP : fh_P E.1 vwCl A h_24 H := by rw [eh_25, eh_20]; exact hP
        have k_26 : h_24 arr = some (.inl (fh_cO E, xs.length, .inr (.inr (.inr (.inr f))))) := by rw [eh_25]; exact fh_up k_22 (fh_neA k_22 k_21)
        have k_27 : h_24 q = some (.inl (fh_cO E, xs.length + xs.length / 2, .inr (.inr (.inr (.inr (va_cpy f (fun _ => none) 0 0 xs.length)))))) := by rw [eh_25]; exact fh_up k_23 (fh_neA k_23 k_21)
        have k_28 : h_24 al = some (.inr (0, [.ref q, .int (nI xs.length), .int md])) := by rw [eh_25]; exact va_up_self _ _ _
        refine lv_astore_n (lv' := [(2, .ref q), (0, .ref al), (1, .ref q0), (3, .int (nI xs.length))]) hx hb d_AL_add1_10 rfl hl (by decide) rfl (fun ls hl => ?_)
        refine lv_aload_n hx hb d_AL_add1_11 rfl (lv_at hl 0 rfl) ?_
        refine lv_iload_n hx hb d_AL_add1_12 rfl (lv_at hl 3 rfl) ?_
        refine lv_aload_n hx hb d_AL_add1_13 rfl (lv_at hl 2 rfl) ?_
        refine fh_astqM hx hb hK hP hS 2 k_27 rfl (EO.any hZ hK hP (he.upF (q := q) (al := al) (fun z1 z2 => by rw [eh_25, va_up_ne _ _ z2, eh_20, va_up_ne _ _ z1]) hf1 ha)) (vp_in_nI (by omega) (by omega)) d_AL_add1_14 (fun H locs hP hS => ?_)
        rw [nI_clamp (by omega)] at hP
        obtain ⟨h_29, eh_30⟩ : ∃ z : fh_H, z = va_up h_24 q (some (.inl (fh_cO E, xs.length + xs.length / 2, .inr (.inr (.inr (.inr (va_up (va_cpy f (fun _ => none) 0 0 xs.length) xs.length (some q0)))))))) := ⟨_, rfl⟩
        have hP : fh_P E.1 vwCl A h_29 H := by rw [eh_30]; exact hP
        have k_31 : h_29 al = some (.inr (0, [.ref q, .int (nI xs.length), .int md])) := by rw [eh_30]; exact fh_up k_28 (Ne.symm (fh_neA k_27 k_28))
        have k_32 : h_29 arr = some (.inl (fh_cO E, xs.length, .inr (.inr (.inr (.inr f))))) := by rw [eh_30]; exact fh_up k_26 (fh_neF hr0 hf1)
        have k_33 : h_29 q = some (.inl (fh_cO E, xs.length + xs.length / 2, .inr (.inr (.inr (.inr (va_up (va_cpy f (fun _ => none) 0 0 xs.length) xs.length (some q0))))))) := by rw [eh_30]; exact va_up_self _ _ _
        refine lv_aload_n hx hb d_AL_add1_15 rfl (lv_at hl 1 rfl) ?_
        refine lv_iload_n hx hb d_AL_add1_16 rfl (lv_at hl 3 rfl) ?_
        refine lv_iconst (v := 1) hx hb d_AL_add1_17 (by decide) ?_
        refine lv_iadd hx hb d_AL_add1_18 ?_
        refine W.eq (g2 := F0 m 19 ls [.int (nI (xs.length + 1)), .ref al]) (by rw [nI_1]) ?_
        refine fh_put hx hb hG C_AL iG_AL hown hK hP hS k_31 1 (by decide) gm52 rfl (v := .int (nI (xs.length + 1))) rfl rfl (Nat.le_of_ble_eq_true rfl) d_AL_add1_19 (fun H locs hP hS => ?_)
        obtain ⟨h_34, eh_35⟩ : ∃ z : fh_H, z = va_up h_29 al (some (.inr (0, [.ref q, .int (nI (xs.length + 1)), .int md]))) := ⟨_, rfl⟩
        have hP : fh_P E.1 vwCl A h_34 H := by rw [eh_35]; exact hP
        have k_36 : h_34 arr = some (.inl (fh_cO E, xs.length, .inr (.inr (.inr (.inr f))))) := by rw [eh_35]; exact fh_up k_32 (fh_neA k_32 k_31)
        have k_37 : h_34 q = some (.inl (fh_cO E, xs.length + xs.length / 2, .inr (.inr (.inr (.inr (va_up (va_cpy f (fun _ => none) 0 0 xs.length) xs.length (some q0))))))) := by rw [eh_35]; exact fh_up k_33 (fh_neA k_33 k_31)
        have k_38 : h_34 al = some (.inr (0, [.ref q, .int (nI (xs.length + 1)), .int md])) := by rw [eh_35]; exact va_up_self _ _ _
        refine fh_vret hx hb hr hlocks (Nat.le_of_ble_eq_true rfl) (Nat.le_of_ble_eq_true rfl) hP hS ⟨rfl, q, ?_, ?_, Or.inr hf1, (dm_up eh_20).trans ((dm_up eh_25).trans ((dm_up eh_30).trans (dm_up eh_35)))⟩ d_AL_add1_22
        · exact LI.put (f := va_cpy f (fun _ => none) 0 0 xs.length) (cap := xs.length + xs.length / 2) (md := md) (by omega) (by omega) (by omega) (fun i hi => by rw [pk_cpy_in (by omega) (by omega), Nat.zero_add, Nat.sub_zero]; exact hf i hi) k_38 k_37
        · intro b z1 z2 z3
          rw [eh_35, va_up_ne _ _ z1, eh_30, va_up_ne _ _ z3, eh_25, va_up_ne _ _ z1, eh_20, va_up_ne _ _ z3]
    · have hlt : xs.length < cap := by omega
      refine lv_iload_n hx hb d_AL_add1_0 rfl (lv_at hl 3 rfl) ?_
      refine lv_aload_n hx hb d_AL_add1_1 rfl (lv_at hl 2 rfl) ?_
      refine fh_alen hx hb hK hP 2 hr0 rfl rfl d_AL_add1_2 ?_
      refine W.eq (g2 := F0 m 3 ls [.int (nI cap), .int (nI xs.length)]) (rfl) ?_
      refine lv_icmp_ne (tgt := 11) hx hb d_AL_add1_3 (by decide) (fun c_39 => ?_) (fun c_39 => ?_)
      · skip
        refine lv_aload_n hx hb d_AL_add1_11 rfl (lv_at hl 2 rfl) ?_
        refine lv_iload_n hx hb d_AL_add1_12 rfl (lv_at hl 3 rfl) ?_
        refine lv_aload_n hx hb d_AL_add1_13 rfl (lv_at hl 1 rfl) ?_
        refine fh_astqM hx hb hK hP hS 2 hr0 rfl (EO.any hZ hK hP he) (vp_in_nI hlt (by omega)) d_AL_add1_14 (fun H locs hP hS => ?_)
        rw [nI_clamp (by omega)] at hP
        obtain ⟨h_40, eh_41⟩ : ∃ z : fh_H, z = va_up h arr (some (.inl (fh_cO E, cap, .inr (.inr (.inr (.inr (va_up (f) xs.length (some q0)))))))) := ⟨_, rfl⟩
        have hP : fh_P E.1 vwCl A h_40 H := by rw [eh_41]; exact hP
        have k_42 : h_40 al = some (.inr (0, [.ref arr, .int (nI xs.length), .int md])) := by rw [eh_41]; exact fh_up ha (Ne.symm (fh_neA hr0 ha))
        have k_43 : h_40 arr = some (.inl (fh_cO E, cap, .inr (.inr (.inr (.inr (va_up (f) xs.length (some q0))))))) := by rw [eh_41]; exact va_up_self _ _ _
        refine lv_aload_n hx hb d_AL_add1_15 rfl (lv_at hl 0 rfl) ?_
        refine lv_iload_n hx hb d_AL_add1_16 rfl (lv_at hl 3 rfl) ?_
        refine lv_iconst (v := 1) hx hb d_AL_add1_17 (by decide) ?_
        refine lv_iadd hx hb d_AL_add1_18 ?_
        refine W.eq (g2 := F0 m 19 ls [.int (nI (xs.length + 1)), .ref al]) (by rw [nI_1]) ?_
        refine fh_put hx hb hG C_AL iG_AL hown hK hP hS k_42 1 (by decide) gm52 rfl (v := .int (nI (xs.length + 1))) rfl rfl (Nat.le_of_ble_eq_true rfl) d_AL_add1_19 (fun H locs hP hS => ?_)
        obtain ⟨h_44, eh_45⟩ : ∃ z : fh_H, z = va_up h_40 al (some (.inr (0, [.ref arr, .int (nI (xs.length + 1)), .int md]))) := ⟨_, rfl⟩
        have hP : fh_P E.1 vwCl A h_44 H := by rw [eh_45]; exact hP
        have k_46 : h_44 arr = some (.inl (fh_cO E, cap, .inr (.inr (.inr (.inr (va_up (f) xs.length (some q0))))))) := by rw [eh_45]; exact fh_up k_43 (fh_neA k_43 k_42)
        have k_47 : h_44 al = some (.inr (0, [.ref arr, .int (nI (xs.length + 1)), .int md])) := by rw [eh_45]; exact va_up_self _ _ _
        refine fh_vret hx hb hr hlocks (Nat.le_of_ble_eq_true rfl) (Nat.le_of_ble_eq_true rfl) hP hS ⟨rfl, arr, ?_, ?_, Or.inl rfl, (dm_up eh_41).trans (dm_up eh_45)⟩ d_AL_add1_22
        · exact LI.put (f := f) (cap := cap) (md := md) hlt hcap h2 hf k_47 k_46
        · intro b z1 z2 z3
          rw [eh_45, va_up_ne _ _ z1, eh_41, va_up_ne _ _ z2]
      · skip
        exact absurd ((nI_eq (by omega) (by omega)).mp c_39) hfull

set_option maxHeartbeats 4000000 in
set_option maxRecDepth 100000 in
theorem c_AL_add0 (l : Launch) (E : fh_E) (h : fh_H) (al arr : Nat) (xs : List Nat) (q0 : Nat) (hL : LI E h al arr xs) (h48 : xs.length ≤ 48) (hE : ∀ x ∈ xs, EO h x) (he : EO h q0) : fh_Met l y_AL_add0 w_AL_add0 ({ frames := 6, cells := 1, slots := 73, locals := 170 }) E [.ref al, .ref q0] h (fun r h1 => r = some (.int 1) ∧ LIadd E h h1 al arr xs q0) 1 73 := by
  refine fh_ofW (cc := b_AL_add0) (maxL := 2) (ret := (some .boolean)) (by decide) rfl (Nat.le_of_ble_eq_true rfl) ?_
  intro p e s m below meth c A ls hx hb hr hml hown hts hlocks hname hnoh hadm hA hK hZ hP hS hl
  have hG : ∀ w ∈ G, w.before _ s = true := fun w hw => hts w (List.mem_cons_of_mem _ hw)
  have hown : s.vm.findClass R_AL = some m.cls := hown
  have hl : lv_has ls 2 [(0, .ref al), (1, .ref q0)] := hl
  obtain ⟨md, ha⟩ := hL.al
  refine lv_aload_n hx hb d_AL_add0_0 rfl (lv_at hl 0 rfl) ?_
  refine lv_dup hx hb d_AL_add0_1 rfl ?_
  refine fh_getS (ref := "java/util/ArrayList") hx hb hG C_AL iG_AL hown hK hP ha 2 (by decide) gm54 (u_same (hG _ gm55)) rfl d_AL_add0_2 ?_
  refine lv_iconst (v := 1) hx hb d_AL_add0_5 (by decide) ?_
  refine lv_iadd hx hb d_AL_add0_6 ?_
  refine fh_putS (ref := "java/util/ArrayList") hx hb hG C_AL iG_AL hown hK hP hS ha 2 (by decide) gm54 (u_same (hG _ gm55)) rfl (v := .int (md + 1)) rfl rfl (Nat.le_of_ble_eq_true rfl) d_AL_add0_7 (fun H locs hP hS => ?_)
  obtain ⟨h_1, eh_2⟩ : ∃ z : fh_H, z = va_up h al (some (.inr (0, [.ref arr, .int (nI xs.length), .int (md + 1)]))) := ⟨_, rfl⟩
  have hP : fh_P E.1 vwCl A h_1 H := by rw [eh_2]; exact hP
  have k_3 : h_1 al = some (.inr (0, [.ref arr, .int (nI xs.length), .int (md + 1)])) := by rw [eh_2]; exact va_up_self _ _ _
  refine lv_aload_n hx hb d_AL_add0_10 rfl (lv_at hl 0 rfl) ?_
  refine lv_aload_n hx hb d_AL_add0_11 rfl (lv_at hl 1 rfl) ?_
  refine lv_aload_n hx hb d_AL_add0_12 rfl (lv_at hl 0 rfl) ?_
  refine fh_get hx hb hG C_AL iG_AL hown hK hP k_3 0 (by decide) gm51 rfl d_AL_add0_13 ?_
  refine lv_aload_n hx hb d_AL_add0_16 rfl (lv_at hl 0 rfl) ?_
  refine fh_get hx hb hG C_AL iG_AL hown hK hP k_3 1 (by decide) gm52 rfl d_AL_add0_17 ?_
  refine fh_callV (C := R_AL) (y := y_AL_add1) (bytes := b_AL_add1) (maxL := 4) (ret := none) (index := 131) (As := [.ref q0, .ref arr, .int (nI xs.length)]) (rest := []) ⟨hx, hb, hml, hown, hG⟩ (c_AL_add1 l E h_1 al arr xs q0 (by rw [eh_2]; exact hL.md _) h48 (fun y hy => (hE y hy).upO (fun z => by rw [eh_2, va_up_ne _ _ z]) ha) (he.upO (fun z => by rw [eh_2, va_up_ne _ _ z]) ha)) (cwV 3 hG (gV gm297 gm299 gs_AL_add1 gm5 gm300) rfl rfl rfl ⟨rfl, hdy_AL_add1⟩ ⟨Nat.le_of_ble_eq_true rfl, Nat.le_of_ble_eq_true rfl⟩) C_AL.1 k_3 hK hZ hP hS hA rfl hl.1 rfl (Nat.le_of_ble_eq_true rfl) d_AL_add0_20 ⟨Nat.le_of_ble_eq_true rfl, Nat.le_of_ble_eq_true rfl⟩ (fun r h1 H locs hq9 hP hS => ?_)
  obtain ⟨rfl, arr1, g1, g2, g3, g4⟩ := hq9
  refine W.eq (g2 := F0 m 23 ls []) rfl ?_
  refine lv_iconst (v := 1) hx hb d_AL_add0_23 (by decide) ?_
  refine fh_zret hx hb hr rfl hlocks (Nat.le_of_ble_eq_true rfl) (Nat.le_of_ble_eq_true rfl) hP hS ⟨rfl, arr1, g1, ?_, ?_, (dm_up eh_2).trans g4⟩ d_AL_add0_24
  · intro b z1 z2 z3
    rw [g2 b z1 z2 z3, eh_2, va_up_ne _ _ z1]
  · rcases g3 with g3 | g3
    · exact Or.inl g3
    · by_cases z : arr1 = al
      · rw [z, eh_2, va_up_self] at g3
        cases g3
      · rw [eh_2, va_up_ne _ _ z] at g3
        exact Or.inr g3
end
section
/-! THE JDK's LIST: what is taken out, cleared, made. -/
theorem li_pred {n : Nat} (h : 0 < n) : nI n - 1 = nI (n - 1) := by
  obtain ⟨k, rfl⟩ : ∃ k, n = k + 1 := ⟨n - 1, by omega⟩
  exact nI_pred k
theorem LI.erase {E : fh_E} {h : fh_H} {al arr cap i : Nat} {F : Nat → Option Nat} {xs : List Nat} {md : Int32} (hi : i < xs.length) (hlen : xs.length ≤ cap) (hcap : cap ≤ 73) (h2 : 2 ≤ cap) (hF : ∀ j, j < xs.length - 1 → F j = (xs.eraseIdx i)[j]?) (ha : h al = some (.inr (0, [.ref arr, .int (nI (xs.length - 1)), .int md]))) (hr : h arr = some (.inl (fh_cO E, cap, .inr (.inr (.inr (.inr (va_up F (xs.length - 1) none))))))) : LI E h al arr (xs.eraseIdx i) := by
  have hl : (xs.eraseIdx i).length = xs.length - 1 := List.length_eraseIdx_of_lt hi
  refine ⟨md, cap, _, by rw [hl]; exact ha, by omega, hcap, fun j hj => ?_, Or.inr ⟨h2, hr⟩⟩
  rw [hl] at hj
  rw [va_up_ne _ _ (by omega)]
  exact hF j hj
theorem LI.emp {E : fh_E} {h : fh_H} {al arr cap : Nat} {F : Nat → Option Nat} {md : Int32} (hcap : cap ≤ 73) (ha : h al = some (.inr (0, [.ref arr, .int (nI 0), .int md]))) (hr : (arr = fh_ed E ∧ cap = 0) ∨ 2 ≤ cap ∧ h arr = some (.inl (fh_cO E, cap, .inr (.inr (.inr (.inr F)))))) : LI E h al arr [] :=
  ⟨md, cap, F, ha, Nat.zero_le _, hcap, fun i hi => absurd hi (Nat.not_lt_zero i), hr⟩
theorem li_er {f : Nat → Option Nat} {xs : List Nat} {i : Nat} (hf : ∀ j, j < xs.length → f j = xs[j]?) (hi : i < xs.length) : ∀ j, j < xs.length - 1 → va_cpy f f (i + 1) i (xs.length - 1 - i) j = (xs.eraseIdx i)[j]? := by
  intro j hj
  rw [List.getElem?_eraseIdx]
  by_cases c : j < i
  · rw [pk_cpy_out (by omega), if_pos c]
    exact hf j (by omega)
  · rw [pk_cpy_in (by omega) (by omega), if_neg c, show i + 1 + (j - i) = j + 1 by omega]
    exact hf (j + 1) (by omega)
theorem li_er0 {f : Nat → Option Nat} {xs : List Nat} {i : Nat} (hf : ∀ j, j < xs.length → f j = xs[j]?) (hi : xs.length - 1 ≤ i) : ∀ j, j < xs.length - 1 → f j = (xs.eraseIdx i)[j]? := by
  intro j hj
  rw [List.getElem?_eraseIdx, if_pos (by omega)]
  exact hf j (by omega)

set_option maxHeartbeats 4000000 in
set_option maxRecDepth 100000 in
theorem c_AL_fastRemove (l : Launch) (E : fh_E) (h : fh_H) (al arr : Nat) (xs : List Nat) (i : Nat) (hL : LI E h al arr xs) (hi : i < xs.length) (hE : ∀ x ∈ xs, EO h x) : fh_Met l y_AL_fastRemove w_AL_fastRemove ({ frames := 1, cells := 0, slots := 0, locals := 60 }) E [.ref al, .ref arr, .int (nI i)] h (fun r h1 => r = none ∧ LI E h1 al arr (xs.eraseIdx i) ∧ ∀ b, b ≠ al → b ≠ arr → h1 b = h b) 0 0 := by
  refine fh_ofW (cc := b_AL_fastRemove) (maxL := 4) (ret := none) (by decide) rfl (Nat.le_of_ble_eq_true rfl) ?_
  intro p e s m below meth c A ls hx hb hr hml hown hts hlocks hname hnoh hadm hA hK hZ hP hS hl
  have hG : ∀ w ∈ G, w.before _ s = true := fun w hw => hts w (List.mem_cons_of_mem _ hw)
  have hown : s.vm.findClass R_AL = some m.cls := hown
  have hl : lv_has ls 4 [(0, .ref al), (1, .ref arr), (2, .int (nI i))] := hl
  obtain ⟨md, cap, f, ha, hlen, hcap, hf, hr0⟩ := hL
  have hr1 := hr0.resolve_left (fun z => by omega)
  have h2 := hr1.1
  have hr0 : h arr = some (.inl (fh_cO E, cap, .inr (.inr (.inr (.inr f))))) := hr1.2
  refine lv_aload_n hx hb d_AL_fastRemove_0 rfl (lv_at hl 0 rfl) ?_
  refine lv_dup hx hb d_AL_fastRemove_1 rfl ?_
  refine fh_getS (ref := "java/util/ArrayList") hx hb hG C_AL iG_AL hown hK hP ha 2 (by decide) gm54 (u_same (hG _ gm55)) rfl d_AL_fastRemove_2 ?_
  refine lv_iconst (v := 1) hx hb d_AL_fastRemove_5 (by decide) ?_
  refine lv_iadd hx hb d_AL_fastRemove_6 ?_
  refine fh_putS (ref := "java/util/ArrayList") hx hb hG C_AL iG_AL hown hK hP hS ha 2 (by decide) gm54 (u_same (hG _ gm55)) rfl (v := .int (md + 1)) rfl rfl (Nat.le_of_ble_eq_true rfl) d_AL_fastRemove_7 (fun H locs hP hS => ?_)
  obtain ⟨h_1, eh_2⟩ : ∃ z : fh_H, z = va_up h al (some (.inr (0, [.ref arr, .int (nI xs.length), .int (md + 1)]))) := ⟨_, rfl⟩
  have hP : fh_P E.1 vwCl A h_1 H := by rw [eh_2]; exact hP
  have k_3 : h_1 arr = some (.inl (fh_cO E, cap, .inr (.inr (.inr (.inr f))))) := by rw [eh_2]; exact fh_up hr0 (fh_neA hr0 ha)
  have k_4 : h_1 al = some (.inr (0, [.ref arr, .int (nI xs.length), .int (md + 1)])) := by rw [eh_2]; exact va_up_self _ _ _
  refine lv_aload_n hx hb d_AL_fastRemove_10 rfl (lv_at hl 0 rfl) ?_
  refine fh_get hx hb hG C_AL iG_AL hown hK hP k_4 1 (by decide) gm52 rfl d_AL_fastRemove_11 ?_
  refine lv_iconst (v := 1) hx hb d_AL_fastRemove_14 (by decide) ?_
  refine lv_isub hx hb d_AL_fastRemove_15 ?_
  refine W.eq (g2 := F0 m 16 ls [.int (nI (xs.length - 1))]) (by rw [li_pred (by omega)]) ?_
  refine lv_dup hx hb d_AL_fastRemove_16 rfl ?_
  refine lv_istore_n (lv' := [(3, .int (nI (xs.length - 1))), (0, .ref al), (1, .ref arr), (2, .int (nI i))]) hx hb d_AL_fastRemove_17 rfl hl (by decide) rfl (fun ls hl => ?_)
  refine lv_iload_n hx hb d_AL_fastRemove_18 rfl (lv_at hl 3 rfl) ?_
  refine lv_icmp_le (tgt := 34) hx hb d_AL_fastRemove_19 (by decide) (fun c_5 => ?_) (fun c_5 => ?_)
  · skip
    refine lv_aload_n hx hb d_AL_fastRemove_34 rfl (lv_at hl 2 rfl) ?_
    refine lv_aload_n hx hb d_AL_fastRemove_35 rfl (lv_at hl 1 rfl) ?_
    refine lv_iload_n hx hb d_AL_fastRemove_36 rfl (lv_at hl 0 rfl) ?_
    refine lv_dup_x1 hx hb d_AL_fastRemove_37 rfl rfl ?_
    refine fh_put hx hb hG C_AL iG_AL hown hK hP hS k_4 1 (by decide) gm52 rfl (v := .int (nI (xs.length - 1))) rfl rfl (Nat.le_of_ble_eq_true rfl) d_AL_fastRemove_38 (fun H locs hP hS => ?_)
    obtain ⟨h_6, eh_7⟩ : ∃ z : fh_H, z = va_up h_1 al (some (.inr (0, [.ref arr, .int (nI (xs.length - 1)), .int (md + 1)]))) := ⟨_, rfl⟩
    have hP : fh_P E.1 vwCl A h_6 H := by rw [eh_7]; exact hP
    have k_8 : h_6 arr = some (.inl (fh_cO E, cap, .inr (.inr (.inr (.inr f))))) := by rw [eh_7]; exact fh_up k_3 (fh_neA k_3 k_4)
    have k_9 : h_6 al = some (.inr (0, [.ref arr, .int (nI (xs.length - 1)), .int (md + 1)])) := by rw [eh_7]; exact va_up_self _ _ _
    refine lv_null hx hb d_AL_fastRemove_41 ?_
    refine fh_astqN hx hb hK hP hS 2 k_8 rfl (vp_in_nI (by omega) (by omega)) d_AL_fastRemove_42 (fun H locs hP hS => ?_)
    rw [nI_clamp (by omega)] at hP
    obtain ⟨h_10, eh_11⟩ : ∃ z : fh_H, z = va_up h_6 arr (some (.inl (fh_cO E, cap, .inr (.inr (.inr (.inr (va_up (f) (xs.length - 1) none))))))) := ⟨_, rfl⟩
    have hP : fh_P E.1 vwCl A h_10 H := by rw [eh_11]; exact hP
    have k_12 : h_10 al = some (.inr (0, [.ref arr, .int (nI (xs.length - 1)), .int (md + 1)])) := by rw [eh_11]; exact fh_up k_9 (Ne.symm (fh_neA k_8 k_9))
    have k_13 : h_10 arr = some (.inl (fh_cO E, cap, .inr (.inr (.inr (.inr (va_up (f) (xs.length - 1) none)))))) := by rw [eh_11]; exact va_up_self _ _ _
    refine fh_vret hx hb hr hlocks (Nat.le_of_ble_eq_true rfl) (Nat.le_of_ble_eq_true rfl) hP hS ⟨rfl, LI.erase (F := f) hi hlen hcap h2 (li_er0 hf ((nI_leI (by omega) (by omega)).mp c_5)) k_12 k_13, fun b z1 z2 => ?_⟩ d_AL_fastRemove_43
    rw [eh_11, va_up_ne _ _ z2, eh_7, va_up_ne _ _ z1, eh_2, va_up_ne _ _ z1]
  · skip
    have hlt : i < xs.length - 1 := by
      rcases Nat.lt_or_ge i (xs.length - 1) with z | z
      · exact z
      · exact absurd ((nI_leI (by omega) (by omega)).mpr z) c_5
    refine lv_aload_n hx hb d_AL_fastRemove_22 rfl (lv_at hl 2 rfl) ?_
    refine lv_iload_n hx hb d_AL_fastRemove_23 rfl (lv_at hl 3 rfl) ?_
    refine lv_iconst (v := 1) hx hb d_AL_fastRemove_24 (by decide) ?_
    refine lv_iadd hx hb d_AL_fastRemove_25 ?_
    refine W.eq (g2 := F0 m 26 ls [.int (nI (i + 1)), .ref arr]) (by rw [nI_1]) ?_
    refine lv_aload_n hx hb d_AL_fastRemove_26 rfl (lv_at hl 2 rfl) ?_
    refine lv_iload_n hx hb d_AL_fastRemove_27 rfl (lv_at hl 3 rfl) ?_
    refine lv_iload_n hx hb d_AL_fastRemove_28 rfl (lv_at hl 0 rfl) ?_
    refine lv_iload_n hx hb d_AL_fastRemove_29 rfl (lv_at hl 3 rfl) ?_
    refine lv_isub hx hb d_AL_fastRemove_30 ?_
    refine W.eq (g2 := F0 m 31 ls [.int (nI (xs.length - 1 - i)), .int (nI i), .ref arr, .int (nI (i + 1)), .ref arr]) (by rw [pk_sub (by omega)]) ?_
    refine fh_copyM hx hb (hml.trans hl.1.symm) hown (hG _ gm237) (hG _ gm239) (hG _ gm238) (hG _ gm16) hK hP hS 2 2 k_3 k_3 rfl rfl (nI_pos (by omega)) (nI_pos (by omega)) (nI_pos (by omega)) (by rw [nI_clamp (by omega), nI_clamp (by omega)]; omega) (by rw [nI_clamp (by omega), nI_clamp (by omega)]; omega) (fun j hj y hy => ?_) (Nat.le_of_ble_eq_true rfl) (Nat.le_of_ble_eq_true rfl) d_AL_fastRemove_31 (fun H locs hP hS => ?_)
    · rw [nI_clamp (by omega)] at hy hj
      rw [hf _ (by omega)] at hy
      exact EO.any hZ hK hP ((hE y (List.mem_of_getElem? hy)).upO (fun z => by rw [eh_2, va_up_ne _ _ z]) ha)
    rw [nI_clamp (by omega), nI_clamp (by omega), nI_clamp (by omega)] at hP
    obtain ⟨h_14, eh_15⟩ : ∃ z : fh_H, z = va_up h_1 arr (some (.inl (fh_cO E, cap, .inr (.inr (.inr (.inr (va_cpy f f (i + 1) i (xs.length - 1 - i)))))))) := ⟨_, rfl⟩
    have hP : fh_P E.1 vwCl A h_14 H := by rw [eh_15]; exact hP
    have k_16 : h_14 al = some (.inr (0, [.ref arr, .int (nI xs.length), .int (md + 1)])) := by rw [eh_15]; exact fh_up k_4 (Ne.symm (fh_neA k_3 k_4))
    have k_17 : h_14 arr = some (.inl (fh_cO E, cap, .inr (.inr (.inr (.inr (va_cpy f f (i + 1) i (xs.length - 1 - i))))))) := by rw [eh_15]; exact va_up_self _ _ _
    refine lv_aload_n hx hb d_AL_fastRemove_34 rfl (lv_at hl 2 rfl) ?_
    refine lv_aload_n hx hb d_AL_fastRemove_35 rfl (lv_at hl 1 rfl) ?_
    refine lv_iload_n hx hb d_AL_fastRemove_36 rfl (lv_at hl 0 rfl) ?_
    refine lv_dup_x1 hx hb d_AL_fastRemove_37 rfl rfl ?_
    refine fh_put hx hb hG C_AL iG_AL hown hK hP hS k_16 1 (by decide) gm52 rfl (v := .int (nI (xs.length - 1))) rfl rfl (Nat.le_of_ble_eq_true rfl) d_AL_fastRemove_38 (fun H locs hP hS => ?_)
    obtain ⟨h_18, eh_19⟩ : ∃ z : fh_H, z = va_up h_14 al (some (.inr (0, [.ref arr, .int (nI (xs.length - 1)), .int (md + 1)]))) := ⟨_, rfl⟩
    have hP : fh_P E.1 vwCl A h_18 H := by rw [eh_19]; exact hP
    have k_20 : h_18 arr = some (.inl (fh_cO E, cap, .inr (.inr (.inr (.inr (va_cpy f f (i + 1) i (xs.length - 1 - i))))))) := by rw [eh_19]; exact fh_up k_17 (fh_neA k_17 k_16)
    have k_21 : h_18 al = some (.inr (0, [.ref arr, .int (nI (xs.length - 1)), .int (md + 1)])) := by rw [eh_19]; exact va_up_self _ _ _
    refine lv_null hx hb d_AL_fastRemove_41 ?_
    refine fh_astqN hx hb hK hP hS 2 k_20 rfl (vp_in_nI (by omega) (by omega)) d_AL_fastRemove_42 (fun H locs hP hS => ?_)
    rw [nI_clamp (by omega)] at hP
    obtain ⟨h_22, eh_23⟩ : ∃ z : fh_H, z = va_up h_18 arr (some (.inl (fh_cO E, cap, .inr (.inr (.inr (.inr (va_up (va_cpy f f (i + 1) i (xs.length - 1 - i)) (xs.length - 1) none))))))) := ⟨_, rfl⟩
    have hP : fh_P E.1 vwCl A h_22 H := by rw [eh_23]; exact hP
    have k_24 : h_22 al = some (.inr (0, [.ref arr, .int (nI (xs.length - 1)), .int (md + 1)])) := by rw [eh_23]; exact fh_up k_21 (Ne.symm (fh_neA k_20 k_21))
    have k_25 : h_22 arr = some (.inl (fh_cO E, cap, .inr (.inr (.inr (.inr (va_up (va_cpy f f (i + 1) i (xs.length - 1 - i)) (xs.length - 1) none)))))) := by rw [eh_23]; exact va_up_self _ _ _
    refine fh_vret hx hb hr hlocks (Nat.le_of_ble_eq_true rfl) (Nat.le_of_ble_eq_true rfl) hP hS ⟨rfl, LI.erase (F := va_cpy f f (i + 1) i (xs.length - 1 - i)) hi hlen hcap h2 (li_er hf hi) k_24 k_25, fun b z1 z2 => ?_⟩ d_AL_fastRemove_43
    rw [eh_23, va_up_ne _ _ z2, eh_19, va_up_ne _ _ z1, eh_15, va_up_ne _ _ z2, eh_2, va_up_ne _ _ z1]

set_option maxHeartbeats 4000000 in
set_option maxRecDepth 100000 in
theorem c_AL_remove (l : Launch) (E : fh_E) (h : fh_H) (al arr : Nat) (xs : List Nat) (i q : Nat) (hL : LI E h al arr xs) (hq : xs[i]? = some q) (hE : ∀ x ∈ xs, EO h x) : fh_Met l y_AL_remove w_AL_remove ({ frames := 2, cells := 0, slots := 0, locals := 83 }) E [.ref al, .int (nI i)] h (fun r h1 => r = some (.ref q) ∧ LI E h1 al arr (xs.eraseIdx i) ∧ ∀ b, b ≠ al → b ≠ arr → h1 b = h b) 0 0 := by
  refine fh_ofW (cc := b_AL_remove) (maxL := 4) (ret := (some (.object "java/lang/Object"))) (by decide) rfl (Nat.le_of_ble_eq_true rfl) ?_
  intro p e s m below meth c A ls hx hb hr hml hown hts hlocks hname hnoh hadm hA hK hZ hP hS hl
  have hG : ∀ w ∈ G, w.before _ s = true := fun w hw => hts w (List.mem_cons_of_mem _ hw)
  have hown : s.vm.findClass R_AL = some m.cls := hown
  have hl : lv_has ls 4 [(0, .ref al), (1, .int (nI i))] := hl
  have hL0 := hL
  obtain ⟨md, cap, f, ha, hlen, hcap, hf, hr0⟩ := hL
  have hi : i < xs.length := (List.getElem?_eq_some_iff.mp hq).1
  have hr0 : h arr = some (.inl (fh_cO E, cap, .inr (.inr (.inr (.inr f))))) := (hr0.resolve_left (fun z => by omega)).2
  refine lv_iload_n hx hb d_AL_remove_0 rfl (lv_at hl 1 rfl) ?_
  refine lv_aload_n hx hb d_AL_remove_1 rfl (lv_at hl 0 rfl) ?_
  refine fh_get hx hb hG C_AL iG_AL hown hK hP ha 1 (by decide) gm52 rfl d_AL_remove_2 ?_
  refine fh_callS (y := y_OB_checkIndex) (bytes := b_OB_checkIndex) (maxL := 2) (ret := (some .int)) (index := 118) (As := [.int (nI i), .int (nI xs.length)]) (rest := []) ⟨hx, hb, hml, hown, hG⟩ (c_OB_checkIndex l E h i xs.length hi (by omega)) ⟨callB_of 2 hG (gB gm190) rfl rfl rfl (hG _ gm14) (hG _ gm188) hdy_OB_checkIndex ⟨Nat.le_of_ble_eq_true rfl, Nat.le_of_ble_eq_true rfl⟩, hG _ gm189⟩ hK hZ hP hS hA rfl hl.1 rfl (Nat.le_of_ble_eq_true rfl) d_AL_remove_5 ⟨Nat.le_of_ble_eq_true rfl, Nat.le_of_ble_eq_true rfl⟩ (fun r h1 H locs hq9 hP hS => ?_)
  obtain ⟨rfl, e9⟩ := hq9
  rw [e9] at hP
  refine W.eq (g2 := F0 m 8 ls [.int (nI i)]) rfl ?_
  refine lv_pop hx hb d_AL_remove_8 rfl ?_
  refine lv_aload_n hx hb d_AL_remove_9 rfl (lv_at hl 0 rfl) ?_
  refine fh_get hx hb hG C_AL iG_AL hown hK hP ha 0 (by decide) gm51 rfl d_AL_remove_10 ?_
  refine lv_astore_n (lv' := [(2, .ref arr), (0, .ref al), (1, .int (nI i))]) hx hb d_AL_remove_13 rfl hl (by decide) rfl (fun ls hl => ?_)
  refine lv_aload_n hx hb d_AL_remove_14 rfl (lv_at hl 0 rfl) ?_
  refine lv_iload_n hx hb d_AL_remove_15 rfl (lv_at hl 2 rfl) ?_
  refine fh_aldq hx hb hK hP 2 hr0 rfl (vp_in_nI (by omega) (by omega)) d_AL_remove_16 ?_
  refine W.eq (g2 := F0 m 17 ls [.ref q]) (by rw [nI_clamp (by omega), hf i hi, hq]; rfl) ?_
  refine lv_astore_n (lv' := [(3, .ref q), (2, .ref arr), (0, .ref al), (1, .int (nI i))]) hx hb d_AL_remove_17 rfl hl (by decide) rfl (fun ls hl => ?_)
  refine lv_aload_n hx hb d_AL_remove_18 rfl (lv_at hl 2 rfl) ?_
  refine lv_aload_n hx hb d_AL_remove_19 rfl (lv_at hl 1 rfl) ?_
  refine lv_iload_n hx hb d_AL_remove_20 rfl (lv_at hl 3 rfl) ?_
  refine fh_callV (C := R_AL) (y := y_AL_fastRemove) (bytes := b_AL_fastRemove) (maxL := 4) (ret := none) (index := 144) (As := [.ref arr, .int (nI i)]) (rest := []) ⟨hx, hb, hml, hown, hG⟩ (c_AL_fastRemove l E h al arr xs i hL0 hi hE) (cwV 2 hG (gV gm233 gm235 gs_AL_fastRemove gm5 gm236) rfl rfl rfl ⟨rfl, hdy_AL_fastRemove⟩ ⟨Nat.le_of_ble_eq_true rfl, Nat.le_of_ble_eq_true rfl⟩) C_AL.1 ha hK hZ hP hS hA rfl hl.1 rfl (Nat.le_of_ble_eq_true rfl) d_AL_remove_21 ⟨Nat.le_of_ble_eq_true rfl, Nat.le_of_ble_eq_true rfl⟩ (fun r h1 H locs hq9 hP hS => ?_)
  obtain ⟨rfl, g1, g2⟩ := hq9
  refine W.eq (g2 := F0 m 24 ls []) rfl ?_
  refine lv_aload_n hx hb d_AL_remove_24 rfl (lv_at hl 0 rfl) ?_
  exact fh_aret hx hb hr (Or.inl ⟨_, rfl⟩) (Or.inr ⟨_, rfl⟩) hlocks (Nat.le_of_ble_eq_true rfl) (Nat.le_of_ble_eq_true rfl) hP hS ⟨rfl, g1, g2⟩ d_AL_remove_25

set_option maxHeartbeats 4000000 in
set_option maxRecDepth 100000 in
theorem c_AL_clear (l : Launch) (E : fh_E) (h : fh_H) (al arr : Nat) (xs : List Nat) (hL : LI E h al arr xs) : fh_Met l y_AL_clear w_AL_clear ({ frames := 0, cells := 0, slots := 0, locals := 0 }) E [.ref al] h (fun r h1 => r = none ∧ LI E h1 al arr [] ∧ ∀ b, b ≠ al → b ≠ arr → h1 b = h b) 0 0 := by
  refine fh_ofW (cc := b_AL_clear) (maxL := 4) (ret := none) (by decide) rfl (Nat.le_of_ble_eq_true rfl) ?_
  intro p e s m below meth c A ls hx hb hr hml hown hts hlocks hname hnoh hadm hA hK hZ hP hS hl
  have hG : ∀ w ∈ G, w.before _ s = true := fun w hw => hts w (List.mem_cons_of_mem _ hw)
  have hown : s.vm.findClass R_AL = some m.cls := hown
  have hl : lv_has ls 4 [(0, .ref al)] := hl
  obtain ⟨md, cap, f, ha, hlen, hcap, hf, hr0⟩ := hL
  refine lv_aload_n hx hb d_AL_clear_0 rfl (lv_at hl 0 rfl) ?_
  refine lv_dup hx hb d_AL_clear_1 rfl ?_
  refine fh_getS (ref := "java/util/ArrayList") hx hb hG C_AL iG_AL hown hK hP ha 2 (by decide) gm54 (u_same (hG _ gm55)) rfl d_AL_clear_2 ?_
  refine lv_iconst (v := 1) hx hb d_AL_clear_5 (by decide) ?_
  refine lv_iadd hx hb d_AL_clear_6 ?_
  refine fh_putS (ref := "java/util/ArrayList") hx hb hG C_AL iG_AL hown hK hP hS ha 2 (by decide) gm54 (u_same (hG _ gm55)) rfl (v := .int (md + 1)) rfl rfl (Nat.le_of_ble_eq_true rfl) d_AL_clear_7 (fun H locs hP hS => ?_)
  obtain ⟨h_1, eh_2⟩ : ∃ z : fh_H, z = va_up h al (some (.inr (0, [.ref arr, .int (nI xs.length), .int (md + 1)]))) := ⟨_, rfl⟩
  have hP : fh_P E.1 vwCl A h_1 H := by rw [eh_2]; exact hP
  have k_3 : h_1 al = some (.inr (0, [.ref arr, .int (nI xs.length), .int (md + 1)])) := by rw [eh_2]; exact va_up_self _ _ _
  refine lv_aload_n hx hb d_AL_clear_10 rfl (lv_at hl 0 rfl) ?_
  refine fh_get hx hb hG C_AL iG_AL hown hK hP k_3 0 (by decide) gm51 rfl d_AL_clear_11 ?_
  refine lv_astore_n (lv' := [(1, .ref arr), (0, .ref al)]) hx hb d_AL_clear_14 rfl hl (by decide) rfl (fun ls hl => ?_)
  refine lv_aload_n hx hb d_AL_clear_15 rfl (lv_at hl 1 rfl) ?_
  refine fh_get hx hb hG C_AL iG_AL hown hK hP k_3 1 (by decide) gm52 rfl d_AL_clear_16 ?_
  refine lv_istore_n (lv' := [(2, .int (nI xs.length)), (1, .ref arr), (0, .ref al)]) hx hb d_AL_clear_19 rfl hl (by decide) rfl (fun ls hl => ?_)
  refine lv_aload_n hx hb d_AL_clear_20 rfl (lv_at hl 2 rfl) ?_
  refine lv_iconst (v := 0) hx hb d_AL_clear_21 (by decide) ?_
  refine lv_dup_x1 hx hb d_AL_clear_22 rfl rfl ?_
  refine fh_put hx hb hG C_AL iG_AL hown hK hP hS k_3 1 (by decide) gm52 rfl (v := .int 0) rfl rfl (Nat.le_of_ble_eq_true rfl) d_AL_clear_23 (fun H locs hP hS => ?_)
  obtain ⟨h_4, eh_5⟩ : ∃ z : fh_H, z = va_up h_1 al (some (.inr (0, [.ref arr, .int 0, .int (md + 1)]))) := ⟨_, rfl⟩
  have hP : fh_P E.1 vwCl A h_4 H := by rw [eh_5]; exact hP
  have k_6 : h_4 al = some (.inr (0, [.ref arr, .int 0, .int (md + 1)])) := by rw [eh_5]; exact va_up_self _ _ _
  refine lv_istore_n (lv' := [(3, .int 0), (2, .int (nI xs.length)), (1, .ref arr), (0, .ref al)]) hx hb d_AL_clear_26 rfl hl (by decide) rfl (fun ls hl => ?_)
  have g0 : ∀ b, b ≠ al → b ≠ arr → h_4 b = h b := fun b z1 z2 => by rw [eh_5, va_up_ne _ _ z1, eh_2, va_up_ne _ _ z1]
  have g1 : ((arr = fh_ed E ∧ cap = 0) ∨ 2 ≤ cap ∧ h_4 arr = some (.inl (fh_cO E, cap, .inr (.inr (.inr (.inr f)))))) := by
    rcases hr0 with hr0 | ⟨h2, hr0⟩
    · exact Or.inl hr0
    · exact Or.inr ⟨h2, by rw [eh_5]; exact fh_up (by rw [eh_2]; exact fh_up hr0 (fh_neA hr0 ha)) (fh_neA hr0 ha)⟩
  have e0 : (0 : Int32) = nI 0 := nI_0.symm
  rw [e0] at hl k_6
  have loop : ∀ (n i : Nat) (F : Nat → Option Nat) (hw : fh_H) (H : Heap) (locs : List Loc) (ls : Array Slot), i + n = xs.length → lv_has ls 4 [(3, .int (nI i)), (2, .int (nI xs.length)), (1, .ref arr), (0, .ref al)] → hw al = some (.inr (0, [.ref arr, .int (nI 0), .int (md + 1)])) → (∀ b, b ≠ al → b ≠ arr → hw b = h b) → ((arr = fh_ed E ∧ cap = 0) ∨ 2 ≤ cap ∧ hw arr = some (.inl (fh_cO E, cap, .inr (.inr (.inr (.inr F)))))) → fh_P E.1 vwCl A hw H → va_S A s.heap H locs → W p l e ({ frames := 0, cells := 0, slots := 0, locals := 0 }) s m ([.ref al] : List Value).toArray below meth c H locs 0 0 (MQ below (fh_Post E (fun r h1 => r = none ∧ LI E h1 al arr [] ∧ ∀ b, b ≠ al → b ≠ arr → h1 b = h b) A) ([.ref al] : List Value).toArray s 0 0 A) (F0 m 27 ls []) := by
    intro n
    induction n with
    | zero =>
      intro i F hw H locs ls hin hl k1 k2 k3 hP hS
      refine lv_iload_n hx hb d_AL_clear_27 rfl (lv_at hl 0 rfl) ?_
      refine lv_iload_n hx hb d_AL_clear_28 rfl (lv_at hl 1 rfl) ?_
      refine lv_icmp_ge (tgt := 42) hx hb d_AL_clear_29 (by decide) (fun c_7 => ?_) (fun c_7 => ?_)
      · exact fh_vret hx hb hr hlocks (Nat.le_of_ble_eq_true rfl) (Nat.le_of_ble_eq_true rfl) hP hS ⟨rfl, LI.emp hcap k1 k3, k2⟩ d_AL_clear_42
      · exact absurd (nI_le (by omega) (by omega)) c_7
    | succ n ih =>
      intro i F hw H locs ls hin hl k1 k2 k3 hP hS
      refine lv_iload_n hx hb d_AL_clear_27 rfl (lv_at hl 0 rfl) ?_
      refine lv_iload_n hx hb d_AL_clear_28 rfl (lv_at hl 1 rfl) ?_
      refine lv_icmp_ge (tgt := 42) hx hb d_AL_clear_29 (by decide) (fun c_8 => ?_) (fun c_8 => ?_)
      · exact absurd ((nI_leI (by omega) (by omega)).mp c_8) (by omega)
      · have k4 := k3.resolve_left (fun z => by omega)
        refine lv_aload_n hx hb d_AL_clear_32 rfl (lv_at hl 2 rfl) ?_
        refine lv_iload_n hx hb d_AL_clear_33 rfl (lv_at hl 0 rfl) ?_
        refine lv_null hx hb d_AL_clear_34 ?_
        refine fh_astqN hx hb hK hP hS 2 k4.2 rfl (vp_in_nI (by omega) (by omega)) d_AL_clear_35 (fun H locs hP hS => ?_)
        refine lv_iinc (v := ((nI i)) + 1) (lv' := [(3, .int (((nI i)) + 1)), (2, .int (nI xs.length)), (1, .ref arr), (0, .ref al)]) hx hb d_AL_clear_36 hl (k := 0) rfl rfl (by decide) rfl (fun ls hl => ?_)
        refine lv_goto (tgt := 27) hx hb d_AL_clear_39 (by decide) ?_
        exact ih (i + 1) _ _ _ _ _ (by omega) (by rw [← nI_1]; exact lv_sub hl [0, 1, 2, 3] rfl) (fh_up k1 (Ne.symm (fh_neA k4.2 k1))) (fun b z1 z2 => (va_up_ne _ _ z2).trans (k2 b z1 z2)) (Or.inr ⟨k4.1, va_up_self _ _ _⟩) hP hS
  exact loop xs.length 0 f _ _ _ _ (by omega) (lv_sub hl [0, 1, 2, 3] rfl) k_6 g0 g1 hP hS

set_option maxHeartbeats 4000000 in
set_option maxRecDepth 100000 in
theorem c_AC_init (l : Launch) (E : fh_E) (h : fh_H) (al : Nat) : fh_Met l y_AC_init w_AC_init ({ frames := 1, cells := 0, slots := 0, locals := 12 }) E [.ref al] h (fun r h1 => r = none ∧ h1 = h) 0 0 := by
  refine fh_ofW (cc := b_AC_init) (maxL := 1) (ret := none) (by decide) rfl (Nat.le_of_ble_eq_true rfl) ?_
  intro p e s m below meth c A ls hx hb hr hml hown hts hlocks hname hnoh hadm hA hK hZ hP hS hl
  have hG : ∀ w ∈ G, w.before _ s = true := fun w hw => hts w (List.mem_cons_of_mem _ hw)
  have hown : s.vm.findClass R_AC = some m.cls := hown
  have hl : lv_has ls 1 [(0, .ref al)] := hl
  refine lv_aload_n hx hb d_AC_init_0 rfl (lv_at hl 0 rfl) ?_
  refine W.objInit hx hb hown (hG _ gm48) (hG _ gm29) (hG _ gm30) rfl (by rw [hml]; exact hl.1) rfl d_AC_init_1 (Nat.le_of_ble_eq_true rfl) (Nat.le_of_ble_eq_true rfl) ?_
  refine W.eq (g2 := F0 m 4 ls []) rfl ?_
  exact fh_vret hx hb hr hlocks (Nat.le_of_ble_eq_true rfl) (Nat.le_of_ble_eq_true rfl) hP hS ⟨rfl, rfl⟩ d_AC_init_4

set_option maxHeartbeats 4000000 in
set_option maxRecDepth 100000 in
theorem c_AB_init (l : Launch) (E : fh_E) (h : fh_H) (al : Nat) (v0 v1 v2 : Value) (ha : h al = some (.inr (0, [v0, v1, v2]))) : fh_Met l y_AB_init w_AB_init ({ frames := 2, cells := 0, slots := 0, locals := 32 }) E [.ref al] h (fun r h1 => r = none ∧ h1 = va_up h al (some (.inr (0, [v0, v1, .int 0])))) 0 0 := by
  refine fh_ofW (cc := b_AB_init) (maxL := 1) (ret := none) (by decide) rfl (Nat.le_of_ble_eq_true rfl) ?_
  intro p e s m below meth c A ls hx hb hr hml hown hts hlocks hname hnoh hadm hA hK hZ hP hS hl
  have hG : ∀ w ∈ G, w.before _ s = true := fun w hw => hts w (List.mem_cons_of_mem _ hw)
  have hown : s.vm.findClass R_AB = some m.cls := hown
  have hl : lv_has ls 1 [(0, .ref al)] := hl
  refine lv_aload_n hx hb d_AB_init_0 rfl (lv_at hl 0 rfl) ?_
  refine fh_callI (b := al) (y := y_AC_init) (bytes := b_AC_init) (maxL := 1) (index := 1) (As := []) (rest := []) ⟨hx, hb, hml, hown, hG⟩ (c_AC_init l E h al) (cwI 0 hG (gB gm47) rfl rfl rfl (hG _ gm3) (hG _ gm45) (hG _ gm46) rfl hdy_AC_init ⟨Nat.le_of_ble_eq_true rfl, Nat.le_of_ble_eq_true rfl⟩) hK hZ hP hS hA rfl hl.1 rfl (Nat.le_of_ble_eq_true rfl) d_AB_init_1 ⟨Nat.le_of_ble_eq_true rfl, Nat.le_of_ble_eq_true rfl⟩ (fun r h1 H locs hq9 hP hS => ?_)
  obtain ⟨rfl, e9⟩ := hq9
  rw [e9] at hP
  refine W.eq (g2 := F0 m 4 ls []) rfl ?_
  refine lv_aload_n hx hb d_AB_init_4 rfl (lv_at hl 0 rfl) ?_
  refine lv_iconst (v := 0) hx hb d_AB_init_5 (by decide) ?_
  refine fh_put hx hb hG C_AL iG_AL hown hK hP hS ha 2 (by decide) gm53 rfl (v := .int 0) rfl rfl (Nat.le_of_ble_eq_true rfl) d_AB_init_6 (fun H locs hP hS => ?_)
  obtain ⟨h_1, eh_2⟩ : ∃ z : fh_H, z = va_up h al (some (.inr (0, [v0, v1, .int 0]))) := ⟨_, rfl⟩
  have hP : fh_P E.1 vwCl A h_1 H := by rw [eh_2]; exact hP
  have k_3 : h_1 al = some (.inr (0, [v0, v1, .int 0])) := by rw [eh_2]; exact va_up_self _ _ _
  exact fh_vret hx hb hr hlocks (Nat.le_of_ble_eq_true rfl) (Nat.le_of_ble_eq_true rfl) hP hS ⟨rfl, eh_2⟩ d_AB_init_9

set_option maxHeartbeats 4000000 in
set_option maxRecDepth 100000 in
theorem c_AL_init (l : Launch) (E : fh_E) (h : fh_H) (al : Nat) (v0 v2 : Value) (ha : h al = some (.inr (0, [v0, .int 0, v2]))) : fh_Met l y_AL_init w_AL_init ({ frames := 3, cells := 0, slots := 0, locals := 52 }) E [.ref al] h (fun r h1 => r = none ∧ LI E h1 al (fh_ed E) [] ∧ ∀ b, b ≠ al → h1 b = h b) 0 0 := by
  refine fh_ofW (cc := b_AL_init) (maxL := 1) (ret := none) (by decide) rfl (Nat.le_of_ble_eq_true rfl) ?_
  intro p e s m below meth c A ls hx hb hr hml hown hts hlocks hname hnoh hadm hA hK hZ hP hS hl
  have hG : ∀ w ∈ G, w.before _ s = true := fun w hw => hts w (List.mem_cons_of_mem _ hw)
  have hown : s.vm.findClass R_AL = some m.cls := hown
  have hl : lv_has ls 1 [(0, .ref al)] := hl
  refine lv_aload_n hx hb d_AL_init_0 rfl (lv_at hl 0 rfl) ?_
  refine fh_callI (b := al) (y := y_AB_init) (bytes := b_AB_init) (maxL := 1) (index := 1) (As := []) (rest := []) ⟨hx, hb, hml, hown, hG⟩ (c_AB_init l E h al v0 (.int 0) v2 ha) (cwI 0 hG (gB gm44) rfl rfl rfl (hG _ gm4) (hG _ gm42) (hG _ gm43) rfl hdy_AB_init ⟨Nat.le_of_ble_eq_true rfl, Nat.le_of_ble_eq_true rfl⟩) hK hZ hP hS hA rfl hl.1 rfl (Nat.le_of_ble_eq_true rfl) d_AL_init_1 ⟨Nat.le_of_ble_eq_true rfl, Nat.le_of_ble_eq_true rfl⟩ (fun r h1 H locs hq9 hP hS => ?_)
  obtain ⟨rfl, e9⟩ := hq9
  rw [e9] at hP
  refine W.eq (g2 := F0 m 4 ls []) rfl ?_
  obtain ⟨h_1, eh_2⟩ : ∃ z : fh_H, z = va_up h al (some (.inr (0, [v0, .int 0, .int 0]))) := ⟨_, rfl⟩
  have hP : fh_P E.1 vwCl A h_1 H := by rw [eh_2]; exact hP
  have k_3 : h_1 al = some (.inr (0, [v0, .int 0, .int 0])) := by rw [eh_2]; exact va_up_self _ _ _
  refine lv_aload_n hx hb d_AL_init_4 rfl (lv_at hl 0 rfl) ?_
  refine va_gets hx hb hZ.1 hS hown (hG _ gm49) (fun _ z => z) d_AL_init_5 ?_
  refine fh_put hx hb hG C_AL iG_AL hown hK hP hS k_3 0 (by decide) gm51 rfl (v := .ref (fh_ed E)) rfl rfl (Nat.le_of_ble_eq_true rfl) d_AL_init_8 (fun H locs hP hS => ?_)
  obtain ⟨h_4, eh_5⟩ : ∃ z : fh_H, z = va_up h_1 al (some (.inr (0, [.ref (fh_ed E), .int 0, .int 0]))) := ⟨_, rfl⟩
  have hP : fh_P E.1 vwCl A h_4 H := by rw [eh_5]; exact hP
  have k_6 : h_4 al = some (.inr (0, [.ref (fh_ed E), .int 0, .int 0])) := by rw [eh_5]; exact va_up_self _ _ _
  exact fh_vret hx hb hr hlocks (Nat.le_of_ble_eq_true rfl) (Nat.le_of_ble_eq_true rfl) hP hS ⟨rfl, LI.emp (cap := 0) (F := fun _ => none) (by omega) (by rw [nI_0]; exact k_6) (Or.inl ⟨rfl, rfl⟩), fun b z => by rw [eh_5, va_up_ne _ _ z, eh_2, va_up_ne _ _ z]⟩ d_AL_init_11
end
section
/-! A METHOD THAT THROWS: its contract, the call of it, the handler. -/
def th_End (first : State) (o : Outcome) (t : State) (L : List Loc) (k n : Nat) : Prop := (∃ a, o = .threw a) ∧ first.WarmedH t.vm ∧ first.sameButNew ({ t with vm := first.vm } : State) L k n
def th_Met (l : Launch) (y : MethodName) (ws : List Cond) (rm : Room) (Pc : Array Value → State → Prop) (Qc : Array Value → State → Outcome → State → Prop) (mc ms : Nat) (free : Addr → Prop) : Prop :=
  MetFree l y (headSpec ws rm) Pc (fun _ _ _ _ _ => True) (fun a st o t => Qc a st o t ∧ ∃ L, th_End st o t L mc ms ∧ ∀ q ∈ L, free q.base)
def th_Q (below : List Frame) (Qc : Array Value → State → Outcome → State → Prop) (a : Array Value) (s : State) (mc ms : Nat) (free : Addr → Prop) : State → Prop := fun t =>
  ∃ o, t.status = .running ∧ Ended t below o ∧ Qc a s o t ∧ ∃ L, th_End s o t L mc ms ∧ ∀ q ∈ L, free q.base
theorem th_ofW {l : Launch} {y : MethodName} {ws ws' : List Cond} {rm : Room} {Pc : Array Value → State → Prop} {Qc : Array Value → State → Outcome → State → Prop} {mc ms : Nat} {free : Addr → Prop} {cc : ByteArray} {maxL : Nat} {ret : Option FieldType}
    (hy : plainName y.cls = true) (hw : ws = Cond.code y cc maxL ret :: ws')
    (body : ∀ p e s m args below meth c s₁, BodyLoose p l y (headSpec ws rm) cc maxL ret e s m args below meth c s₁ → c.maxLocals = maxL → Pc args s →
      W p l e (headSpec ws rm).room s m args below meth c s.heap [] 0 0 (th_Q below Qc args s mc ms free) (entryFrame m args maxL)) : th_Met l y ws rm Pc Qc mc ms free := by
  refine MetFree.of_bodyS (code := cc) (maxLocals := maxL) (ret := ret) hy ?_ ?_
  · intro args s m h hn
    obtain ⟨meth, c, h1, h2, h3, h4, h5, h6, -, -⟩ := Cond.code_spec hn (atoms_spec (ws := ws) h _ (by rw [hw]; exact List.mem_cons_self))
    exact ⟨meth, c, h1, h2, h3, h4, h5, h6⟩
  · intro p e s m args below meth c s₁ B hml hP _
    have hh0 : s₁.heap = s.heap := by rw [B.state]; rfl
    obtain ⟨t, a1, o, b1, b2, b3⟩ := body p e s m args below meth c s₁ B hml hP s₁ hh0 (Stand.of_body B)
    exact ⟨t, o, a1, b1, b2, ⟨b3.1, b3.2⟩⟩
section TH
variable {p : Program} {l : Launch} {e : Env} {R : Room} {s : State} {m : MethodId} {args : Array Value} {below : List Frame} {meth : Method} {c : Code} {H : Heap} {locs : List Loc} {cells slots : Nat} {Q : State → Prop}
variable {y : MethodName} {bytes cc : ByteArray} {maxL nL mc ms n index : Nat} {ret : Option FieldType} {ws : List Cond} {rm : Room} {Pc : Array Value → State → Prop} {Qc : Array Value → State → Outcome → State → Prop} {free : Addr → Prop} {Ts : List Cond} {own C : String} {b : Addr} {As rest : List Value} {g : JFrame}
/-- the call of a method that throws: the walk stands again, the note over its frame -/
theorem th_back {U : State} (cb : CallB R s args own index y bytes maxL ret ws rm mc ms n) (hM : th_Met l y ws rm Pc Qc mc ms free) (hbl : FrameBlind Pc) (X : Stand p l e R s m args below meth c U locs cells slots) (hg : g.method = m) (hsize : g.locals.size = c.maxLocals) {ig : Instr} {len : Nat} (hdg : decode c.code g.pc = .ok (ig, len)) (hW : 2 * g.monitorRoom + (g.stack.map fun v => v.category).sum ≤ 8) {mk : MethodId} (hn : U.methodNamed? y = some mk) {a : Array Value} (hP : Pc a U) (hf : cells + mc ≤ R.cells ∧ slots + ms ≤ R.slots) :
    ∃ (x : Addr) (t T' : State) (L : List Loc), Stand p l e R s m args below meth c T' (locs ++ L) (cells + mc) (slots + ms) ∧ (∀ q ∈ L, free q.base) ∧ T'.heap = t.heap ∧ T'.vm = t.vm ∧ Qc a (U.calling g mk a) (.threw x) t ∧
      Steps p.tables e below (doInvoke e (U.setTop g) [] mk a).1 ((T'.setTop g).pushFrame (.throwing x)) := by
  obtain ⟨hrc, hrs, hfr, hlo, hws, hcw, -, hini, -⟩ := cb
  have hini' : (Cond.initialized y.cls).before a U = true := word_at X.warmed (Or.inl (by first | rfl | simp [Cond.onTables, Cond.keeps, Cond.steady])) hini
  obtain ⟨methY, cY, hmY, hcY, -, hlY, -, -, -, -⟩ := Cond.code_spec hn (hws _ hcw a U X.warmed)
  obtain ⟨kY, hkY, -⟩ := className_of_methodNamed hn
  have hinitY : kY.init = .initialized := Cond.initialized_spec (findClass_of_methodNamed hn) hkY hini'
  have h : At U g.method c below := by rw [hg]; exact X.here
  have happ : (headSpec ws rm).appliesLoose y e.platform (U.calling g mk a) = true :=
    Spec.appliesLoose_calling (g := g) h hdg hn hkY hinitY
      (X.room_calling (g := g) (R' := (headSpec ws rm).room) hsize hmY hcY hfr (by rw [hlY]; show _ + (maxL + 11) + rm.locals ≤ _; omega) (by show cells + rm.cells ≤ _; rw [hrc]; exact hf.1) (by show slots + rm.slots ≤ _; rw [hrs]; exact hf.2)) (atoms_intro fun w hw => hws w hw _ _ X.warmed)
  obtain ⟨mid, hmid⟩ := h.above
  have hfr2 : (U.setTop g).frames = (.java g :: mid) ++ below := by rw [State.frames_setTop' g h.top, hmid]; rfl
  obtain ⟨o, s₂, hsteps, -, hend, hq⟩ := Steps.callFree hM p X.admits X.cas X.clock (acts := []) hfr2 happ (hbl _ _ _ _ hP) trivial
  have hq' : Qc a (U.calling g mk a) o s₂ ∧ ∃ L, th_End (U.calling g mk a) o s₂ L mc ms ∧ ∀ q ∈ L, free q.base := hq
  rw [State.frames_setTop' g h.top] at hend
  obtain ⟨hq1, L, ⟨⟨x, rfl⟩, hW2, hsame⟩, hL⟩ := hq'
  have htail : U.frames.tail = below := X.tail
  obtain ⟨T', X', hW3, hB, ht⟩ := X.outOfThrown hg (mk := mk) (a := a) (t := s₂) (x := x) (by rw [← htail]; exact hend) hW2 hsame
  refine ⟨x, s₂, T', L, X', hL, ?_, ?_, hq1, by rw [← ht]; exact hsteps⟩
  · rw [ht]; exact (Stand.throwing_heap T' g x).symm
  · rw [ht]; exact (Stand.throwing_vm T' g x).symm
/-- a call that throws -/
def th_Run (p : Program) (l : Launch) (e : Env) (R : Room) (s : State) (m : MethodId) (args : Array Value) (below : List Frame) (meth : Method) (c : Code) (H : Heap) (locs : List Loc) (cells slots mc ms : Nat) (g : JFrame) (rest : List Value) (Qa : State → Outcome → State → Prop) (free : Addr → Prop) : Prop :=
  ∀ T : State, T.heap = H → Stand p l e R s m args below meth c T locs cells slots → ∃ (x : Addr) (st₀ t T' : State) (L : List Loc), st₀.heap = H ∧ Stand p l e R s m args below meth c T' (locs ++ L) (cells + mc) (slots + ms) ∧ (∀ q ∈ L, free q.base) ∧ T'.heap = t.heap ∧ T'.vm = t.vm ∧ Qa st₀ (.threw x) t ∧
    Steps p.tables e below (T.setTop g) ((T'.setTop { g with stack := rest }).pushFrame (.throwing x))
theorem th_runV (S : CallFix p m c cc nL s args Ts own) (hM : th_Met l y ws rm Pc Qc mc ms free) (cw : CallW R s args own C index y bytes maxL ret ws rm mc ms n) (hp : PreV s H C b Pc As)
    (hg : g.method = m) (hn : As.length = n) (hsize : g.locals.size = nL) (hstack : g.stack = As.reverse ++ .ref b :: rest) (hW : 2 * g.monitorRoom + (rest.map fun v => v.category).sum ≤ 8) (hdg : decode cc g.pc = .ok (.invokevirtual index, 3)) (hf : cells + mc ≤ R.cells ∧ slots + ms ≤ R.slots) :
    th_Run p l e R s m args below meth c H locs cells slots mc ms g rest (Qc (Value.ref b :: As).toArray) free := by
  obtain ⟨cb, hinst, hsel⟩ := cw
  obtain ⟨-, -, -, -, -, -, hcode, -, hy, hlen, hlink⟩ := id cb
  obtain ⟨hexec, hb, hml, hown, -⟩ := S
  obtain ⟨hbl, ⟨cellB, hcell, hobj, hcls⟩, hPc⟩ := hp
  intro T hT X
  obtain ⟨mk, methM, hnamed, hmethM, hstM, habM⟩ := Cond.instanceMethod_spec hinst
  obtain ⟨methM', cM, hmethM', -, -, -, -, -, -, hsigM⟩ := Cond.code_spec hnamed hcode
  cases hmethM.symm.trans hmethM'
  obtain ⟨c2, r2, m2, q1, q2, q3, q4, kP, hkP, hkPi⟩ := Cond.selects_spec hsel
  cases hcls.symm.trans q1
  cases (State.methodFound?_of_named hnamed hy).symm.trans q2
  cases hnamed.symm.trans q3
  have hselP : selectMethod e.platform s.vm cellB.cls mk = .method mk := by rw [Launch.admits_selectMethod X.admits]; exact q4
  obtain ⟨vm₁, X₁, hstep₁⟩ := X.invokevirtual hexec hown hlink hnamed hmethM hstM hkP hkPi hy (a := b) (cell := cellB) (by rw [hT]; exact hcell)
    (fun z h => by rw [h] at hobj; cases hobj) hselP hmethM habM hkP hkPi (g := g) hg (argsL := As) (rest := rest) (hn.trans (hlen _ hsigM)) hstack (by rw [hb]; exact hdg)
  obtain ⟨x, t, T', L, X', hL, e1, e2, hq, hsteps⟩ := th_back cb hM hbl X₁ (g := { g with stack := rest }) hg (hsize.trans hml.symm) (by rw [hb]; exact hdg) hW (X₁.named hnamed) (a := (Value.ref b :: As).toArray) (hPc (T.setVm vm₁) hT X₁.warmed) hf
  exact ⟨x, _, t, T', L, by exact hT, X', hL, e1, e2, hq, hstep₁ _ fun acts => by rw [doInvoke_state]; exact hsteps⟩
theorem th_runS (S : CallFix p m c cc nL s args Ts own) (hM : th_Met l y ws rm Pc Qc mc ms free) (cw : CallB R s args own index y bytes maxL ret ws rm mc ms n ∧ (Cond.static y).before args s = true) (hp : PreS s H Pc As)
    (hg : g.method = m) (hn : As.length = n) (hsize : g.locals.size = nL) (hstack : g.stack = As.reverse ++ rest) (hW : 2 * g.monitorRoom + (rest.map fun v => v.category).sum ≤ 8) (hdg : decode cc g.pc = .ok (.invokestatic index, 3)) (hf : cells + mc ≤ R.cells ∧ slots + ms ≤ R.slots) :
    th_Run p l e R s m args below meth c H locs cells slots mc ms g rest (Qc As.toArray) free := by
  obtain ⟨cb, hstat⟩ := cw
  obtain ⟨-, -, -, -, -, -, hcode, hinit, hy, hlen, hlink⟩ := id cb
  obtain ⟨hexec, hb, hml, hown, -⟩ := S
  obtain ⟨hbl, hPc⟩ := hp
  intro T hT X
  obtain ⟨mk, hnamed⟩ := Cond.code_named hcode
  obtain ⟨methM, cM, hmethM, -, -, -, -, -, -, hsigM⟩ := Cond.code_spec hnamed hcode
  have hstatic : methM.isStatic = true := Cond.static_spec hnamed hmethM hstat
  obtain ⟨kP, hkP, -⟩ := className_of_methodNamed hnamed
  have hinitP : kP.init = .initialized := Cond.initialized_spec (findClass_of_methodNamed hnamed) hkP hinit
  obtain ⟨vm₁, X₁, hstep₁⟩ := X.invokestatic hexec hown hlink hnamed hmethM hstatic hkP hinitP hy (g := g) hg (argsL := As) (rest := rest) (hn.trans (hlen _ hsigM)) hstack (by rw [hb]; exact hdg)
  obtain ⟨x, t, T', L, X', hL, e1, e2, hq, hsteps⟩ := th_back cb hM hbl X₁ (g := { g with stack := rest }) hg (hsize.trans hml.symm) (by rw [hb]; exact hdg) hW (X₁.named hnamed) (a := As.toArray) (hPc (T.setVm vm₁) hT X₁.warmed) hf
  exact ⟨x, _, t, T', L, by exact hT, X', hL, e1, e2, hq, hstep₁ _ fun acts => by rw [doInvoke_state]; exact hsteps⟩
end TH
section TL
variable {p : Program} {l : Launch} {e : Env} {R : Room} {s : State} {m : MethodId} {args : Array Value} {below : List Frame} {meth : Method} {c : Code} {H : Heap} {locs : List Loc} {cells slots : Nat} {Q : State → Prop}
variable {mc ms : Nat} {free free0 : Addr → Prop} {Qc : Array Value → State → Outcome → State → Prop} {Qa : State → Outcome → State → Prop} {rest : List Value} {pc : Nat} {ls : Array Slot} {st0 : List Value}
/-- the callee throws, and no handler is here: the caller throws -/
theorem th_leave (hr : th_Run p l e R s m args below meth c H locs cells slots mc ms (F0 m pc ls st0) rest Qa free) (hnoh : c.exceptionTable.isEmpty = true) (hq : ∀ (x : Addr) (st₀ t t2 : State), st₀.heap = H → Qa st₀ (.threw x) t → t2.heap = t.heap → t2.vm = t.vm → Qc args s (.threw x) t2) (hf : ∀ q ∈ locs, free0 q.base) (hf2 : ∀ q, free q → free0 q) (hlocks : meth.locks = false) :
    W p l e R s m args below meth c H locs cells slots (th_Q below Qc args s (cells + mc) (slots + ms) free0) (F0 m pc ls st0) := by
  intro T hT X
  obtain ⟨x, st₀, t, T', L, h0, X', hL, e1, e2, hq1, hst⟩ := hr T hT X
  obtain ⟨w1, w2, w3, w4, w5⟩ := X'.leaveThrown x (g := { F0 m pc ls st0 with stack := rest }) rfl rfl rfl (covers_of_empty hnoh _) hlocks
  refine ⟨_, hst.trans w1, .threw x, w2, w3, hq x st₀ t _ h0 hq1 e1 e2, locs ++ L, ⟨⟨x, rfl⟩, w4, w5⟩, fun q hq => ?_⟩
  rcases List.mem_append.mp hq with z | z
  · exact hf q z
  · exact hf2 _ (hL q z)
end TL
end
section
/-! A THROW OF ONE OF THE THREE: the words that it needs, its row, its contract. -/
def thUp : List String := ["java/lang/RuntimeException", "java/lang/Exception"]
abbrev xIOB : String := "java/lang/IndexOutOfBoundsException"
abbrev xUOE : String := "java/lang/UnsupportedOperationException"
abbrev xIAE : String := "java/lang/IllegalArgumentException"
def thRest (X : String) : List Cond := [.castable X X, .isRef (.static "java/lang/Throwable" "UNASSIGNED_STACK" "[Ljava/lang/StackTraceElement;"), .isRef (.static "java/lang/Throwable" "SUPPRESSED_SENTINEL" "Ljava/util/List;"), .laysStatic "java/lang/Throwable" "UNASSIGNED_STACK" "[Ljava/lang/StackTraceElement;", .laysStatic "java/lang/Throwable" "SUPPRESSED_SENTINEL" "Ljava/util/List;", .declares ⟨"java/lang/RuntimeException", "<init>", "(Ljava/lang/String;)V"⟩, .declares ⟨"java/lang/Exception", "<init>", "(Ljava/lang/String;)V"⟩, .declares ⟨"java/lang/Throwable", "<init>", "(Ljava/lang/String;)V"⟩]
def thIn (ic : Nat) (X : String) : Bool := (Bundle.ownAtoms "BlockLayer" ic X thUp).all (fun w => G.contains w || (thRest X).contains w)
theorem thIn_iob : thIn 175 xIOB = true := by decide +kernel
theorem thIn_uoe : thIn 180 xUOE = true := by decide +kernel
theorem thIn_iae : thIn 88 xIAE = true := by decide +kernel
theorem th_own {args : Array Value} {s : State} {E : fh_E} {A : Nat → Prop} {ic : Nat} {X : String} (hin : thIn ic X = true) (hX : Cond.castable X X ∈ fhCast) (hZ : fh_Z E A s s.heap) (hG : ∀ w ∈ G, w.before args s = true) : ∀ w ∈ Bundle.ownAtoms "BlockLayer" ic X thUp, w.before args s = true := by
  intro w hw
  have := List.all_eq_true.mp hin w hw
  rcases Bool.or_eq_true _ _ ▸ this with h | h
  · exact hG w (List.contains_iff_mem.mp h)
  · have hm := List.contains_iff_mem.mp h
    obtain ⟨-, -, -, -, -, -, h7, h8, h9, -, -, h12, h13, h14⟩ := hZ
    simp only [thRest, List.mem_cons, List.not_mem_nil, or_false] at hm
    rcases hm with rfl | rfl | rfl | rfl | rfl | rfl | rfl | rfl
    · exact va_Nw.use rfl (h7 _ hX)
    · exact fh_Zq_use h8
    · exact fh_Zq_use h9
    · exact h12.use
    · exact h13.use
    · exact va_Nw.use rfl (h14 _ (by simp [fhDecl]))
    · exact va_Nw.use rfl (h14 _ (by simp [fhDecl]))
    · exact va_Nw.use rfl (h14 _ (by simp [fhDecl]))
/-- it threw an X; the world is as it was -/
def fh_Thr (E : fh_E) (X : String) (h : fh_H) (A : Nat → Prop) : Array Value → State → Outcome → State → Prop := fun _ st oc t => (∃ x : Addr, oc = .threw x ∧ (∃ ce : Cell, t.heap[x]? = some ce ∧ t.vm.findClass X = some ce.cls ∧ ce.vm = .none) ∧ fh_P E.1 vwCl A h t.heap) ∧ va_F A st t
def th_M (l : Launch) (y : MethodName) (ws : List Cond) (rm : Room) (E : fh_E) (av : List Value) (h : fh_H) (X : String) (mc ms : Nat) : Prop := ∀ sz : Nat, th_Met l y ws rm (fh_Pre E h sz av) (fh_Thr E X h (fh_A h sz)) mc ms (fh_A h sz)
theorem th_ofWh {l : Launch} {y : MethodName} {ws ws' : List Cond} {rm : Room} {E : fh_E} {av : List Value} {h : fh_H} {X : String} {mc ms : Nat} {cc : ByteArray} {maxL : Nat} {ret : Option FieldType}
    (hy : plainName y.cls = true) (hw : ws = Cond.code y cc maxL ret :: ws') (hlen : (lg_sl av).length ≤ maxL)
    (body : ∀ (p : Program) (e : Env) (s : State) (m : MethodId) (below : List Frame) (meth : Method) (c : Code) (A : Nat → Prop) (ls : Array Slot), p.tables.exec = Jvm.exec → c.code = cc → meth.sig.returnType = ret → c.maxLocals = maxL → s.vm.findClass y.cls = some m.cls → (∀ w ∈ ws, w.before av.toArray s = true) → meth.locks = false → meth.name = y.name → c.exceptionTable.isEmpty = true → l.admits e →
      (∀ q : Nat, s.heap.size ≤ q → A q) → va_K E.1 vwCl (fh_ty E) s → fh_Z E A s s.heap → fh_P E.1 vwCl A h s.heap → va_S A s.heap s.heap [] → lv_has ls maxL (lv_args 0 av) →
      W p l e rm s m av.toArray below meth c s.heap [] 0 0 (th_Q below (fh_Thr E X h A) av.toArray s mc ms A) (F0 m 0 ls [])) : th_M l y ws rm E av h X mc ms := by
  intro sz
  refine th_ofW (cc := cc) (maxL := maxL) (ret := ret) hy hw ?_
  intro p e s m args below meth c s₁ B hml hv
  obtain ⟨rfl, hsz, hP, hK, hZ⟩ := hv
  subst hsz
  have hts := atoms_spec (ws := ws) B.pre
  have hl := lv_entry av (n := maxL) hlen
  rw [lg_entry_eq]
  generalize (lg_sl av ++ List.replicate (maxL - (lg_sl av).length) Slot.unset).toArray = ls at hl ⊢
  have hcode : (Cond.code y cc maxL ret).before av.toArray s = true := hts _ (by rw [hw]; exact List.mem_cons_self)
  exact body p e s m below meth c (fh_A h s.heap.size) ls B.exec B.bytes B.returns hml (findClass_of_methodNamed B.named) hts B.notSynchronized (name_of_methodNamed B.named B.method).1 (BodyLoose.noHandlers B hcode) B.admits (fun q hq => Or.inr hq) hK hZ (hP.self _) va_S.rf hl
section TG
variable {p : Program} {l : Launch} {e : Env} {R : Room} {s : State} {m : MethodId} {args : Array Value} {below : List Frame} {meth : Method} {c : Code} {H : Heap} {locs : List Loc} {cells slots : Nat} {Q : State → Prop}
variable {cc : ByteArray} {pc : Nat} {ls : Array Slot} {rest : List Value} {E : fh_E} {A : Nat → Prop} {h : fh_H}
/-- new X("text"), and its throw: nothing was written before -/
theorem th_go (hexec : p.tables.exec = Jvm.exec) (hb : c.code = cc) (hml : c.maxLocals = ls.size) (hown : s.vm.findClass "BlockLayer" = some m.cls) {icl it ic : Nat} {X tx : String} (hfl : l.flags = pinnedFlags ++ [noTraceFlag]) (hadm : l.admits e)
    (hin : thIn ic X = true) (hX : Cond.castable X X ∈ fhCast) (hfit : Bundle.fit X = true) (hcl : Cond.classLink "BlockLayer" icl X ∈ G) (hi : Cond.initialized X ∈ G) (htx : (it, tx) ∈ fhTxt) (hnoh : c.exceptionTable.isEmpty = true) (hlocks : meth.locks = false)
    (hZ : fh_Z E A s s.heap) (hG : ∀ w ∈ G, w.before args s = true) (hP : fh_P E.1 vwCl A h s.heap) (hA : ∀ q : Nat, s.heap.size ≤ q → A q) (hR : 5 < R.frames ∧ 82 ≤ R.locals ∧ cells + 1 ≤ R.cells ∧ slots + 6 ≤ R.slots)
    (d0 : decode cc pc = .ok (.new icl, 3)) (d1 : decode cc (pc + 3) = .ok (.dup, 1)) (d2 : decode cc (pc + 4) = .ok (.ldc it, 2)) (d3 : decode cc (pc + 6) = .ok (.invokespecial ic, 3)) (d4 : decode cc (pc + 9) = .ok (.athrow, 1)) {mc ms : Nat} (hmc : cells + 1 ≤ mc) (hms : slots + 6 ≤ ms) :
    W p l e R s m args below meth c s.heap [] cells slots (th_Q below (fh_Thr E X h A) args s mc ms A) (F0 m pc ls []) := by
  intro T hT X0
  have hpre := th_own hin hX hZ hG
  obtain ⟨sa, hsa⟩ := hZ.2.2.2.2.2.2.2.2.2.1 _ htx
  obtain ⟨vm₁, cX, kX, hfX, hkX, -, -, X₁, st1⟩ := X0.newCold hexec (own := "BlockLayer") (C := X) (index := icl) (n := 6) hown (hG _ hcl) (hpre (.instantiable X 6) (by simp [Bundle.ownAtoms])) (hG _ hi)
    (g := F0 m pc ls []) rfl (by rw [hb]; exact d0) hR.2.2.1 hR.2.2.2
  generalize hTT : (T.setVm vm₁).pushCell { cls := cX, slots := kX.instanceTypes.map defaultValue, vm := .none } = T1 at X₁ st1
  have hcellA : T1.heap[T.heap.size]? = some (freshCell cX kX) := by rw [← hTT]; exact State.heap_pushCell_size _ _
  obtain ⟨U, hsteps, hrun, hend, hW, hsame, ce, hce, K⟩ := X₁.ctorThrowS hexec (Launch.traces_off hfl hadm) (own := "BlockLayer") (cls := X) (names := thUp) (ic := ic) hown hfit (by decide +kernel)
    hpre (fun y hy => by cases hy) hfX hkX hcellA (by rw [hT]; exact Nat.le_refl _) (msg := .ref sa) rfl
    (g := F0 m (pc + 6) ls [.ref sa, .ref T.heap.size, .ref T.heap.size]) rfl hml.symm rfl rfl (rest := []) rfl
    (by rw [hb]; exact d3) (by rw [hb]; exact d4) (covers_of_empty hnoh _) (by simp [thUp]; exact hR.1) (by
      show 2 * 0 + 1 + (13 * (2 + 1) + 42) ≤ R.locals
      exact hR.2.1) hlocks
  have hold : ∀ q : Nat, q < s.heap.size → U.heap[q]? = s.heap[q]? := by
    intro q hq
    have h1 : s.heap[q]? = some s.heap[q] := Array.getElem?_eq_getElem hq
    have := State.sameButNew.old_cell hsame h1
    rw [h1]; exact this
  refine ⟨U, ?_, .threw T.heap.size, hrun, hend, ⟨⟨_, rfl, ⟨ce, hce, ?_, K.vm⟩, hP.kept (fun q hq => ?_)⟩, hsame.2.1, fun q h1 _ => hold q h1⟩, [], ⟨⟨_, rfl⟩, hW, hsame.mono hmc hms⟩, fun q hq => by cases hq⟩
  · refine st1 _ ?_
    show Steps p.tables e below (T1.setTop (F0 m (pc + 3) ls [.ref T.heap.size])) _
    jvm_step X₁.here [X₁.here.top, hexec, hb, d1, Value.category]
    exact X₁.ldcString hexec (own := "BlockLayer") (text := tx) (index := it) (a := sa) hown hsa.1 hsa.2 (g := F0 m (pc + 4) ls [.ref T.heap.size, .ref T.heap.size]) rfl (by rw [hb]; exact d2) _ hsteps
  · rw [hW.alike.findClass]; exact K.cls
  · obtain ⟨x, hx⟩ := hq
    exact hold q (hP.lt hx)
end TG
end
section
/-! THE CALL OF A METHOD THAT THROWS ONE OF THE THREE: the caller throws it, too. A PURE METHOD: it leaves the heap. -/
section TK
variable {p : Program} {l : Launch} {e : Env} {R : Room} {s : State} {m : MethodId} {args : Array Value} {below : List Frame} {meth : Method} {c : Code} {H : Heap} {locs : List Loc} {cells slots : Nat} {Q : State → Prop}
variable {pc : Nat} {ls : Array Slot} {rest As : List Value} {E : fh_E} {A : Nat → Prop} {h : fh_H} {X : String}
variable {y : MethodName} {bytes cc : ByteArray} {maxL nL mc ms n index : Nat} {ret : Option FieldType} {ws : List Cond} {rm : Room} {Ts : List Cond} {own C : String} {b : Nat}
theorem th_pass {st0 : List Value} {a : Array Value} (hr : th_Run p l e R s m args below meth c H locs cells slots mc ms (F0 m pc ls st0) rest (fh_Thr E X h (fh_A h H.size) a) (fh_A h H.size)) (hP : fh_P E.1 vwCl A h H) (hS : va_S A s.heap H locs) (hA : ∀ q : Nat, s.heap.size ≤ q → A q) (hnoh : c.exceptionTable.isEmpty = true) (hlocks : meth.locks = false) {mcT msT : Nat} (hc : cells + mc ≤ mcT) (hs : slots + ms ≤ msT) :
    W p l e R s m args below meth c H locs cells slots (th_Q below (fh_Thr E X h A) args s mcT msT A) (F0 m pc ls st0) := by
  have hsub := fh_sub hP hS hA
  have := th_leave (Qc := fh_Thr E X h A) (free0 := A) hr hnoh (fun x st₀ t t2 h0 hq e1 e2 => by
    obtain ⟨⟨x', hx, ⟨ce, q1, q2, q3⟩, hP1⟩, hz, hk⟩ := hq
    cases hx
    rw [h0] at hz hk
    refine ⟨⟨_, rfl, ⟨ce, by rw [e1]; exact q1, by rw [e2]; exact q2, q3⟩, by rw [e1]; exact hP1.weaken (fun q _ hq => hsub q hq)⟩, Nat.le_trans hS.1 (by rw [e1]; exact hz), fun q g1 g2 => ?_⟩
    rw [e1, hk q (Nat.lt_of_lt_of_le g1 hS.1) (fun z => g2 (hsub q z))]; exact hS.2.1 q g1 g2) hS.2.2 hsub hlocks
  intro T hT X0
  obtain ⟨t, a1, o, b1, b2, b3, L, ⟨b4, b5, b6⟩, b7⟩ := this T hT X0
  exact ⟨t, a1, o, b1, b2, b3, L, ⟨b4, b5, b6.mono hc hs⟩, b7⟩
theorem th_callS (S : CallFix p m c cc nL s args Ts own) (hM : th_M l y ws rm E As h X mc ms) (cw : CallB R s args own index y bytes maxL ret ws rm mc ms n ∧ (Cond.static y).before args s = true) (hK : va_K E.1 vwCl (fh_ty E) s) (hZ : fh_Z E A s s.heap) (hP : fh_P E.1 vwCl A h H) (hS : va_S A s.heap H locs) (hA : ∀ q : Nat, s.heap.size ≤ q → A q) (hn : As.length = n) (hsize : ls.size = nL) {st0 : List Value} (hst : st0 = As.reverse ++ rest) (hW : (rest.map fun v => v.category).sum ≤ 8) (hdg : decode cc pc = .ok (.invokestatic index, 3)) (hf : cells + mc ≤ R.cells ∧ slots + ms ≤ R.slots)
    (hnoh : c.exceptionTable.isEmpty = true) (hlocks : meth.locks = false) {mcT msT : Nat} (hc : cells + mc ≤ mcT) (hs : slots + ms ≤ msT) : W p l e R s m args below meth c H locs cells slots (th_Q below (fh_Thr E X h A) args s mcT msT A) (F0 m pc ls st0) := by
  subst hst
  exact th_pass (th_runS S (hM H.size) cw (fh_preS hK hZ hP hS hA) rfl hn hsize rfl (lv_room hW) hdg hf) hP hS hA hnoh hlocks hc hs
theorem th_callV (S : CallFix p m c cc nL s args Ts own) (hM : th_M l y ws rm E (.ref b :: As) h X mc ms) (cw : CallW R s args own C index y bytes maxL ret ws rm mc ms n) {ci : Nat} {T : u_T} {N : Nat} (hci : vwCl[ci]? = some (C, T, N)) {fs : List Value} (hob : h b = some (.inr (ci, fs))) (hK : va_K E.1 vwCl (fh_ty E) s) (hZ : fh_Z E A s s.heap) (hP : fh_P E.1 vwCl A h H) (hS : va_S A s.heap H locs) (hA : ∀ q : Nat, s.heap.size ≤ q → A q) (hn : As.length = n) (hsize : ls.size = nL) {st0 : List Value} (hst : st0 = As.reverse ++ .ref b :: rest) (hW : (rest.map fun v => v.category).sum ≤ 8) (hdg : decode cc pc = .ok (.invokevirtual index, 3)) (hf : cells + mc ≤ R.cells ∧ slots + ms ≤ R.slots)
    (hnoh : c.exceptionTable.isEmpty = true) (hlocks : meth.locks = false) {mcT msT : Nat} (hc : cells + mc ≤ mcT) (hs : slots + ms ≤ msT) : W p l e R s m args below meth c H locs cells slots (th_Q below (fh_Thr E X h A) args s mcT msT A) (F0 m pc ls st0) := by
  subst hst
  have hp := fh_preS (av := .ref b :: As) hK hZ hP hS hA
  exact th_pass (th_runV S (hM H.size) cw ⟨hp.1, fh_recv hK hP hci hob, hp.2⟩ rfl hn hsize rfl (lv_room hW) hdg hf) hP hS hA hnoh hlocks hc hs
/-- a pure method: its answer; it leaves the heap, and it makes nothing -/
def fh_Pu (post : Option Value → Prop) : Array Value → State → Outcome → State → Prop := fun _ st oc t => ∃ r : Option Value, oc = .returned r ∧ post r ∧ t.heap = st.heap
def fh_MP (l : Launch) (y : MethodName) (ws : List Cond) (rm : Room) (E : fh_E) (av : List Value) (h : fh_H) (post : Option Value → Prop) : Prop := ∀ sz : Nat, Met l y ws rm (fh_Pre E h sz av) (fh_Pu post) 0 0 (fun _ => False)
theorem fh_ofWP {l : Launch} {y : MethodName} {ws ws' : List Cond} {rm : Room} {E : fh_E} {av : List Value} {h : fh_H} {post : Option Value → Prop} {cc : ByteArray} {maxL : Nat} {ret : Option FieldType}
    (hy : plainName y.cls = true) (hw : ws = Cond.code y cc maxL ret :: ws') (hlen : (lg_sl av).length ≤ maxL)
    (body : ∀ (p : Program) (e : Env) (s : State) (m : MethodId) (below : List Frame) (meth : Method) (c : Code) (A : Nat → Prop) (ls : Array Slot), p.tables.exec = Jvm.exec → c.code = cc → meth.sig.returnType = ret → c.maxLocals = maxL → s.vm.findClass y.cls = some m.cls → (∀ w ∈ ws, w.before av.toArray s = true) → meth.locks = false → meth.name = y.name → c.exceptionTable.isEmpty = true → l.admits e →
      (∀ q : Nat, s.heap.size ≤ q → A q) → va_K E.1 vwCl (fh_ty E) s → fh_Z E A s s.heap → fh_P E.1 vwCl A h s.heap → va_S A s.heap s.heap [] → lv_has ls maxL (lv_args 0 av) →
      W p l e rm s m av.toArray below meth c s.heap [] 0 0 (MQ below (fh_Pu post) av.toArray s 0 0 (fun _ => False)) (F0 m 0 ls [])) : fh_MP l y ws rm E av h post := by
  intro sz
  refine Met.ofW (cc := cc) (maxL := maxL) (ret := ret) hy hw ?_
  intro p e s m args below meth c s₁ B hml hv
  obtain ⟨rfl, hsz, hP, hK, hZ⟩ := hv
  subst hsz
  have hts := atoms_spec (ws := ws) B.pre
  have hl := lv_entry av (n := maxL) hlen
  rw [lg_entry_eq]
  generalize (lg_sl av ++ List.replicate (maxL - (lg_sl av).length) Slot.unset).toArray = ls at hl ⊢
  have hcode : (Cond.code y cc maxL ret).before av.toArray s = true := hts _ (by rw [hw]; exact List.mem_cons_self)
  exact body p e s m below meth c (fh_A h s.heap.size) ls B.exec B.bytes B.returns hml (findClass_of_methodNamed B.named) hts B.notSynchronized (name_of_methodNamed B.named B.method).1 (BodyLoose.noHandlers B hcode) B.admits (fun q hq => Or.inr hq) hK hZ (hP.self _) va_S.rf hl
theorem fh_iretP {v : Int32} {post : Option Value → Prop} (hexec : p.tables.exec = Jvm.exec) (hb : c.code = cc) (hr : meth.sig.returnType = some .int) (hlocks : meth.locks = false) (hpost : post (some (.int v))) (hdg : decode cc pc = .ok (.ireturn, 1)) : W p l e R s m args below meth c s.heap [] 0 0 (MQ below (fh_Pu post) args s 0 0 (fun _ => False)) (F0 m pc ls [.int v]) :=
  W.iret hexec hb hr (fun t ht _ => ⟨_, rfl, hpost, ht⟩) (fun q hq => by cases hq) hdg hlocks
theorem fh_callVP {post : Option Value → Prop} (S : CallFix p m c cc nL s args Ts own) (hM : fh_MP l y ws rm E (.ref b :: As) h post) (cw : CallW R s args own C index y bytes maxL ret ws rm 0 0 n) {ci : Nat} {T : u_T} {N : Nat} (hci : vwCl[ci]? = some (C, T, N)) {fs : List Value} (hob : h b = some (.inr (ci, fs))) (hK : va_K E.1 vwCl (fh_ty E) s) (hZ : fh_Z E A s s.heap) (hP : fh_P E.1 vwCl A h s.heap) (hA : ∀ q : Nat, s.heap.size ≤ q → A q) (hn : As.length = n) (hsize : ls.size = nL) {st0 : List Value} (hst : st0 = As.reverse ++ .ref b :: rest) (hW : (rest.map fun v => v.category).sum ≤ 8) (hdg : decode cc pc = .ok (.invokevirtual index, 3)) (hf : cells + 0 ≤ R.cells ∧ slots + 0 ≤ R.slots)
    (kk : ∀ r : Option Value, post r → W p l e R s m args below meth c s.heap [] cells slots Q (F0 m (pc + 3) ls (r.toList ++ rest))) : W p l e R s m args below meth c s.heap [] cells slots Q (F0 m pc ls st0) := by
  subst hst
  have hp := fh_preS (av := .ref b :: As) hK hZ hP (va_S.rf) hA
  have hr : va_Run p l e R s m args below meth c s.heap [] cells slots 0 0 (F0 m pc ls (As.reverse ++ .ref b :: rest)) rest (fh_Pu post (Value.ref b :: As).toArray) (fun _ => False) := va_runV S (hM s.heap.size) cw ⟨hp.1, fh_recv hK hP hci hob, hp.2⟩ rfl hn hsize rfl (lv_room hW) hdg hf
  intro T0 hT X0
  obtain ⟨v, st₀, t, T', L, h0, X', hL, e1, e2, ⟨r, hv, hp2, hh⟩, st⟩ := hr T0 hT X0
  cases hv
  cases L with
  | nil =>
    obtain ⟨t2, a1, b1⟩ := kk v hp2 T' (by rw [e1, hh, h0]) (by simpa using X')
    exact ⟨t2, st t2 a1, b1⟩
  | cons q L => exact (hL q List.mem_cons_self).elim
end TK
end
