/-! THE START: what the law finds, and the way to its loop. -/
set_option maxHeartbeats 800000 in
set_option maxRecDepth 100000 in
theorem env_ok {s : State} {b : Nat} {A : Nat → Prop} (hts : ∀ w ∈ lw_tbl, w.before #[Value.ref b] s = true) (hgv : (Jvm.Cond.and given_1 narrow_1).before #[Value.ref b] s = true) (hA : ∀ a : Nat, a < s.heap.size → ¬ A a) : ∃ E : fh_E, va_K E.1 vwCl (fh_ty E) s ∧ fh_Z E A s s.heap := by
  have hs := flat_of_before _ hgv
  have hG : ∀ w ∈ G, w.before #[Value.ref b] s = true := fun w hw => hts w (G_tbl w hw)
  obtain ⟨c0, i0, k0⟩ := u_known (C := R_AL) (T := T_AL) (N := 3) (n := 3) hG iG_AL (hG _ gm38)
  obtain ⟨c1, i1, k1⟩ := u_known (C := R_CP) (T := T_CP) (N := 3) (n := 3) hG iG_CP (hG _ gm267)
  obtain ⟨c2, i2, k2⟩ := u_known (C := R_CS) (T := T_CS) (N := 1) (n := 1) hG iG_CS (hG _ gm32)
  obtain ⟨c3, i3, k3⟩ := u_known (C := R_RQ) (T := T_RQ) (N := 6) (n := 6) hG iG_RQ (hG _ gm547)
  obtain ⟨c4, i4, k4⟩ := u_known (C := R_QU) (T := T_QU) (N := 1) (n := 1) hG iG_QU (hG _ gm74)
  obtain ⟨c5, i5, k5⟩ := u_known (C := R_DK) (T := T_DK) (N := 11) (n := 11) hG iG_DK (hG _ gm68)
  obtain ⟨c6, i6, k6⟩ := u_known (C := R_BL) (T := T_BL) (N := 7) (n := 7) hG iG_BL (hG _ gm24)
  obtain ⟨c7, i7, k7⟩ := u_known (C := R_MD) (T := T_MD) (N := 29) (n := 29) hG iG_MD (hG _ gm668)
  obtain ⟨cI, kI, qI, fI, gI, hI⟩ := Cond.arrayClass_spec (type := FieldType.int) (hts _ (List.mem_of_getElem? (i := 167) (by decide +kernel)))
  obtain ⟨cJ, kJ, qJ, fJ, gJ, hJ⟩ := Cond.arrayClass_spec (type := FieldType.long) (hts _ (List.mem_of_getElem? (i := 931) (by decide +kernel)))
  obtain ⟨cZ, kZ, qZ, fZ, gZ, hZ⟩ := Cond.arrayClass_spec (type := FieldType.boolean) (hts _ (List.mem_of_getElem? (i := 799) (by decide +kernel)))
  obtain ⟨qO, cO, kO, f1, f2, f3, f4, f5⟩ := Cond.arrayOver_spec (n := "java/lang/Object") (hts _ (List.mem_of_getElem? (i := 379) (by decide +kernel)))
  obtain ⟨ed, hed, hT⟩ := va_Tof (tm := .static "java/util/ArrayList" "DEFAULTCAPACITY_EMPTY_ELEMENTDATA" "[Ljava/lang/Object;") (ty := .object "java/lang/Object") (N := 0) (f := fun _ => .null) (A := A) (by decide) (hs _ (by decide +kernel)) (va_eqt (hs (Cond.eq (.length (.static "java/util/ArrayList" "DEFAULTCAPACITY_EMPTY_ELEMENTDATA" "[Ljava/lang/Object;")) (.int 0)) (by decide +kernel))) (fun j hj => absurd hj (Nat.not_lt_zero _)) hA
  obtain ⟨mi, hmi⟩ := va_Mi.of (hs (Cond.isRef (.mirror "[Ljava/lang/Object;")) (by decide +kernel))
  refine ⟨((fun k => if k = 0 then c0 else if k = 1 then c1 else if k = 2 then c2 else if k = 3 then c3 else if k = 4 then c4 else if k = 5 then c5 else if k = 6 then c6 else c7, fun k => if k = 0 then i0 else if k = 1 then i1 else if k = 2 then i2 else if k = 3 then i3 else if k = 4 then i4 else if k = 5 then i5 else if k = 6 then i6 else i7), (cI, cJ, cO, cZ), (ed, mi)), ⟨fun k q hq => ?_, fun k x hx => ?_⟩, ?_⟩
  · match k, hq with
    | 0, hq => cases hq; exact k0
    | 1, hq => cases hq; exact k1
    | 2, hq => cases hq; exact k2
    | 3, hq => cases hq; exact k3
    | 4, hq => cases hq; exact k4
    | 5, hq => cases hq; exact k5
    | 6, hq => cases hq; exact k6
    | 7, hq => cases hq; exact k7
    | k + 8, hq => simp [vwCl] at hq
  · match k, hx with
    | 0, hx => cases hx; exact ⟨fun n z => ⟨fun k h => (by cases h), kI, gI, qI, hI⟩, fI⟩
    | 1, hx => cases hx; exact ⟨fun n z => ⟨fun k h => (by cases h), kJ, gJ, qJ, hJ⟩, fJ⟩
    | 2, hx => cases hx; exact ⟨fun n z => ⟨fun k h => (by cases h), kO, f3, qO, f4⟩, kO, qO, f3, f4, f1, f5⟩
    | 3, hx => cases hx; exact ⟨fun n z => ⟨fun k h => (by cases h), kZ, gZ, qZ, hZ⟩, fZ⟩
    | k + 4, hx => simp at hx
  · refine ⟨va_Zof (hts _ (List.mem_of_getElem? (i := 88) (by decide +kernel))) (hts _ (List.mem_of_getElem? (i := 43) (by decide +kernel))) hed hA, hT, hmi, va_AO.of (hts _ (List.mem_of_getElem? (i := 379) (by decide +kernel))), va_Dc.of (hts _ (List.mem_of_getElem? (i := 937) (by decide +kernel))), fun w hw => ?_, fun w hw => ?_, va_Zqof (hts _ (List.mem_of_getElem? (i := 506) (by decide +kernel))) (hts _ (List.mem_of_getElem? (i := 47) (by decide +kernel))) (hs _ (by decide +kernel)) hA, va_Zqof (hts _ (List.mem_of_getElem? (i := 508) (by decide +kernel))) (hts _ (List.mem_of_getElem? (i := 47) (by decide +kernel))) (hs _ (by decide +kernel)) hA, fun q hq => ?_, fh_NC.of (args := #[Value.ref b]) (hs _ (by decide +kernel)), fh_LS.of (hts _ (List.mem_of_getElem? (i := 506) (by decide +kernel))) hA, fh_LS.of (hts _ (List.mem_of_getElem? (i := 508) (by decide +kernel))) hA, fun q hq => ?_⟩
    · simp only [fhNest, List.mem_cons, List.not_mem_nil, or_false] at hw
      rcases hw with rfl | rfl | rfl | rfl | rfl
      · exact va_Nw.of rfl (hts _ (List.mem_of_getElem? (i := 71) (by decide +kernel)))
      · exact va_Nw.of rfl (hts _ (List.mem_of_getElem? (i := 107) (by decide +kernel)))
      · exact va_Nw.of rfl (hts _ (List.mem_of_getElem? (i := 113) (by decide +kernel)))
      · exact va_Nw.of rfl (hts _ (List.mem_of_getElem? (i := 124) (by decide +kernel)))
      · exact va_Nw.of rfl (hts _ (List.mem_of_getElem? (i := 253) (by decide +kernel)))
    · simp only [fhCast, List.mem_cons, List.not_mem_nil, or_false] at hw
      rcases hw with rfl | rfl | rfl | rfl | rfl | rfl | rfl
      · exact va_Nw.of rfl (hts _ (List.mem_of_getElem? (i := 933) (by decide +kernel)))
      · exact va_Nw.of rfl (hts _ (List.mem_of_getElem? (i := 934) (by decide +kernel)))
      · exact va_Nw.of rfl (hts _ (List.mem_of_getElem? (i := 943) (by decide +kernel)))
      · exact va_Nw.of rfl (hts _ (List.mem_of_getElem? (i := 944) (by decide +kernel)))
      · exact va_Nw.of rfl (hts _ (List.mem_of_getElem? (i := 481) (by decide +kernel)))
      · exact va_Nw.of rfl (hts _ (List.mem_of_getElem? (i := 553) (by decide +kernel)))
      · exact va_Nw.of rfl (hts _ (List.mem_of_getElem? (i := 658) (by decide +kernel)))
    · simp only [fhTxt, List.mem_cons, List.not_mem_nil, or_false] at hq
      rcases hq with rfl | rfl | rfl | rfl
      · have z : (Cond.stringRef "BlockLayer" 173 "there is no such block").before #[Value.ref b] s = true := (hts _ (List.mem_of_getElem? (i := 520) (by decide +kernel)))
        obtain ⟨k9, cf9, i9, a9, -, -, -, -, -, hev⟩ := Cond.stringRef_spec k6.2.1 z
        exact ⟨a9, vk_R.of z hev⟩
      · have z : (Cond.stringRef "BlockLayer" 178 "the queue might have more than 40 requests").before #[Value.ref b] s = true := (hts _ (List.mem_of_getElem? (i := 560) (by decide +kernel)))
        obtain ⟨k9, cf9, i9, a9, -, -, -, -, -, hev⟩ := Cond.stringRef_spec k6.2.1 z
        exact ⟨a9, vk_R.of z hev⟩
      · have z : (Cond.stringRef "BlockLayer" 86 "a step has 1 to 1000 units").before #[Value.ref b] s = true := (hts _ (List.mem_of_getElem? (i := 665) (by decide +kernel)))
        obtain ⟨k9, cf9, i9, a9, -, -, -, -, -, hev⟩ := Cond.stringRef_spec k6.2.1 z
        exact ⟨a9, vk_R.of z hev⟩
      · have z : (Cond.stringRef "BlockLayer" 101 "a policy is 0 to 4").before #[Value.ref b] s = true := (hts _ (List.mem_of_getElem? (i := 683) (by decide +kernel)))
        obtain ⟨k9, cf9, i9, a9, -, -, -, -, -, hev⟩ := Cond.stringRef_spec k6.2.1 z
        exact ⟨a9, vk_R.of z hev⟩
    · simp only [fhDecl, List.mem_cons, List.not_mem_nil, or_false] at hq
      rcases hq with rfl | rfl | rfl
      · exact va_Nw.of rfl (hts _ (List.mem_of_getElem? (i := 483) (by decide +kernel)))
      · exact va_Nw.of rfl (hts _ (List.mem_of_getElem? (i := 485) (by decide +kernel)))
      · exact va_Nw.of rfl (hts _ (List.mem_of_getElem? (i := 487) (by decide +kernel)))
theorem law_i {L k : Nat} (hL : L ≤ 1536) (hk : 3 * k ≤ 1536) : (nI L - 3 < nI (3 * k)) ↔ L < 3 * k + 3 := by
  by_cases c : L < 3
  · refine ⟨fun _ => by omega, fun _ => ?_⟩
    have : nI L - 3 < 0 := by
      rcases (show L = 0 ∨ L = 1 ∨ L = 2 by omega) with rfl | rfl | rfl <;> decide
    exact Int32.lt_of_lt_of_le this (nI_pos' (by omega))
  · obtain ⟨j, rfl⟩ : ∃ j, L = j + 3 := ⟨L - 3, by omega⟩
    rw [← nI_add, show nI 3 = 3 from rfl, Int32.add_sub_cancel, nI_ltI (by omega) (by omega)]
    omega
set_option maxHeartbeats 800000 in
set_option maxRecDepth 100000 in
theorem law_loop {p : Program} {l : Launch} {e : Env} {s : State} {m : MethodId} {args : Array Value} {below : List Frame} {meth : Method} {c : Code} {A : Nat → Prop} {E : fh_E} {b L : Nat} {xs : Nat → Int32} {Q : State → Prop} (C0 : LCt p l s m args c A E b L xs) {bl med md out : Nat} {ad : Nat → Nat} (CC : CNt med md out ad) (hL : L ≤ 1536)
    (kend : ∀ (H : Heap) (locs : List Loc) (cells slots : Nat) (ls : Array Slot), va_S A s.heap H locs → cells ≤ 47000 → slots ≤ 1800000 → W p l e room_1 s m args below meth c H locs cells slots Q (F0 m 700 ls [])) :
    ∀ (n k : Nat) (h : fh_H) (S : mS) (t N : Nat) (H : Heap) (locs : List Loc) (cells slots : Nat) (ls : Array Slot), L < 3 * (k + n) + 3 → 3 * k ≤ L → LSt E h bl med md out ad S t N → t ≤ 1640 * k → N ≤ 11 * k → cells ≤ 30 + 90 * k → slots ≤ 900 + 3362 * k → fh_P E.1 vwCl A h H → va_S A s.heap H locs → lv_has ls 7 [(4, .int (nI (3 * k))), (0, .ref b), (1, .ref bl), (2, .ref md), (3, .ref out)] → W p l e room_1 s m args below meth c H locs cells slots Q (F0 m 23 ls []) := by
  have C1 := C0
  obtain ⟨hx, hb, hml, hown, hG, hK, hZ, hA, hfl, hX, hbl, hbA⟩ := C0
  intro n
  induction n with
  | zero =>
    intro k h S t N H locs cells slots ls hLn h3 HS ht hN hc hs hP hS hl
    refine lv_iload hx hb d_LW_law_23 (lv_at hl 0 rfl) ?_
    refine lv_aload_n hx hb d_LW_law_25 rfl (lv_at hl 1 rfl) ?_
    refine va_slen hx hb hX hbl hbA hS d_LW_law_26 ?_
    refine lv_iconst (v := 3) hx hb d_LW_law_27 (by decide) ?_
    refine lv_isub hx hb d_LW_law_28 ?_
    refine lv_icmp_gt (tgt := 700) hx hb d_LW_law_29 (by decide) (fun c_3 => ?_) (fun c_3 => ?_)
    · skip
      exact kend H locs cells slots ls hS (by omega) (by omega)
    · skip
      exact absurd ((law_i hL (by omega)).mpr (by omega)) c_3
  | succ n ih =>
    intro k h S t N H locs cells slots ls hLn h3 HS ht hN hc hs hP hS hl
    refine lv_iload hx hb d_LW_law_23 (lv_at hl 0 rfl) ?_
    refine lv_aload_n hx hb d_LW_law_25 rfl (lv_at hl 1 rfl) ?_
    refine va_slen hx hb hX hbl hbA hS d_LW_law_26 ?_
    refine lv_iconst (v := 3) hx hb d_LW_law_27 (by decide) ?_
    refine lv_isub hx hb d_LW_law_28 ?_
    refine lv_icmp_gt (tgt := 700) hx hb d_LW_law_29 (by decide) (fun c_4 => ?_) (fun c_4 => ?_)
    · skip
      exact kend H locs cells slots ls hS (by omega) (by omega)
    · skip
      have hk3 : 3 * k + 3 ≤ L := by
        by_cases z : L < 3 * k + 3
        · exact absurd ((law_i hL (by omega)).mpr z) c_4
        · omega
      have tl : ∀ (h2 : fh_H) (S2 : mS) (t2 N2 : Nat) (H2 : Heap) (locs2 : List Loc) (c2 s2 : Nat) (ls2 : Array Slot), LSt E h2 bl med md out ad S2 t2 N2 → t2 ≤ 1640 * (k + 1) → N2 ≤ 11 * (k + 1) → c2 ≤ 30 + 90 * (k + 1) → s2 ≤ 900 + 3362 * (k + 1) → fh_P E.1 vwCl A h2 H2 → va_S A s.heap H2 locs2 → lv_has ls2 7 [(4, .int (nI (3 * k))), (0, .ref b), (1, .ref bl), (2, .ref md), (3, .ref out)] → W p l e room_1 s m args below meth c H2 locs2 c2 s2 Q (F0 m 694 ls2 []) := by
        intro h2 S2 t2 N2 H2 locs2 c2 s2 ls HS2 ht2 hN2 hc2 hs2 hP2 hS2 hl
        refine lv_iinc (v := ((nI (3 * k))) + 3) (lv' := [(4, .int (((nI (3 * k))) + 3)), (0, .ref b), (1, .ref bl), (2, .ref md), (3, .ref out)]) hx hb d_LW_law_694 hl (k := 0) rfl rfl (by decide) rfl (fun ls hl => ?_)
        refine lv_goto (tgt := 23) hx hb d_LW_law_697 (by decide) ?_
        exact ih (k + 1) h2 S2 t2 N2 H2 locs2 c2 s2 ls (by omega) (by omega) HS2 ht2 hN2 hc2 hs2 hP2 hS2 (by rw [show 3 * (k + 1) = 3 * k + 3 by omega, ← nI_add]; exact hl)
      refine lv_aload_n hx hb d_LW_law_32 rfl (lv_at hl 1 rfl) ?_
      refine lv_iload hx hb d_LW_law_33 (lv_at hl 0 rfl) ?_
      refine lw_sld hx hb hX hbl hbA hS (by omega) (by omega) d_LW_law_35 ?_
      refine lv_bipush (v := 15) hx hb d_LW_law_36 (by decide) ?_
      refine lv_iand hx hb d_LW_law_38 ?_
      rcases sw_in (n := 14) (by decide) (xs (3 * k) &&& 15) with ⟨j, hj, ej⟩ | hw
      · rw [ej]
        rcases (show j = 0 ∨ j = 1 ∨ j = 2 ∨ j = 3 ∨ j = 4 ∨ j = 5 ∨ j = 6 ∨ j = 7 ∨ j = 8 ∨ j = 9 ∨ j = 10 ∨ j = 11 ∨ j = 12 ∨ j = 13 by omega) with rfl | rfl | rfl | rfl | rfl | rfl | rfl | rfl | rfl | rfl | rfl | rfl | rfl | rfl
        · refine lv_tableIn (off := 69) (tgt := 108) hx hb d_LW_law_39 (by decide) (by decide) (by decide) (by decide) ?_
          exact law_c0 C1 CC hk3 hL HS ht hN hc hs hP hS hl tl
        · refine lv_tableIn (off := 125) (tgt := 164) hx hb d_LW_law_39 (by decide) (by decide) (by decide) (by decide) ?_
          exact law_c1 C1 CC hk3 hL HS ht hN hc hs hP hS hl tl
        · refine lv_tableIn (off := 193) (tgt := 232) hx hb d_LW_law_39 (by decide) (by decide) (by decide) (by decide) ?_
          exact law_c2 C1 CC hk3 hL HS ht hN hc hs hP hS hl tl
        · refine lv_tableIn (off := 237) (tgt := 276) hx hb d_LW_law_39 (by decide) (by decide) (by decide) (by decide) ?_
          exact law_c3 C1 CC hk3 hL HS ht hN hc hs hP hS hl tl
        · refine lv_tableIn (off := 293) (tgt := 332) hx hb d_LW_law_39 (by decide) (by decide) (by decide) (by decide) ?_
          exact law_c4 C1 CC hk3 hL HS ht hN hc hs hP hS hl tl
        · refine lv_tableIn (off := 306) (tgt := 345) hx hb d_LW_law_39 (by decide) (by decide) (by decide) (by decide) ?_
          exact law_c5 C1 CC hk3 hL HS ht hN hc hs hP hS hl tl
        · refine lv_tableIn (off := 362) (tgt := 401) hx hb d_LW_law_39 (by decide) (by decide) (by decide) (by decide) ?_
          exact law_c6 C1 CC hk3 hL HS ht hN hc hs hP hS hl tl
        · refine lv_tableIn (off := 375) (tgt := 414) hx hb d_LW_law_39 (by decide) (by decide) (by decide) (by decide) ?_
          exact law_c7 C1 CC hk3 hL HS ht hN hc hs hP hS hl tl
        · refine lv_tableIn (off := 431) (tgt := 470) hx hb d_LW_law_39 (by decide) (by decide) (by decide) (by decide) ?_
          exact law_c8 C1 CC hk3 hL HS ht hN hc hs hP hS hl tl
        · refine lv_tableIn (off := 487) (tgt := 526) hx hb d_LW_law_39 (by decide) (by decide) (by decide) (by decide) ?_
          exact law_c9 C1 CC hk3 hL HS ht hN hc hs hP hS hl tl
        · refine lv_tableIn (off := 543) (tgt := 582) hx hb d_LW_law_39 (by decide) (by decide) (by decide) (by decide) ?_
          exact law_c10 C1 CC hk3 hL HS ht hN hc hs hP hS hl tl
        · refine lv_tableIn (off := 568) (tgt := 607) hx hb d_LW_law_39 (by decide) (by decide) (by decide) (by decide) ?_
          exact law_c11 C1 CC hk3 hL HS ht hN hc hs hP hS hl tl
        · refine lv_tableIn (off := 593) (tgt := 632) hx hb d_LW_law_39 (by decide) (by decide) (by decide) (by decide) ?_
          exact law_c12 C1 CC hk3 hL HS ht hN hc hs hP hS hl tl
        · refine lv_tableIn (off := 630) (tgt := 669) hx hb d_LW_law_39 (by decide) (by decide) (by decide) (by decide) ?_
          exact law_c13 C1 CC hk3 hL HS ht hN hc hs hP hS hl tl
      · refine lv_tableOut (tgt := 694) hx hb d_LW_law_39 (hw.imp id (fun z => by omega)) (by decide) ?_
        exact tl h S t N H locs cells slots ls HS (by omega) (by omega) (by omega) (by omega) hP hS hl

