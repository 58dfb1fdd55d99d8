/-! THE LAW: one call of the script. -/
theorem lw_rc : 60000 ≤ room_1.cells := Nat.le_of_ble_eq_true rfl
theorem lw_rs : 2000000 ≤ room_1.slots := Nat.le_of_ble_eq_true rfl
section LWR
variable {p : Program} {l : Launch} {e : Env} {R : Room} {s : State} {m : MethodId} {args : Array Value} {below : List Frame} {meth : Method} {c : Code} {H : Heap} {locs : List Loc} {cells slots : Nat} {Q : State → Prop}
variable {cc : ByteArray} {pc : Nat} {ls : Array Slot} {rest : List Value} {A : Nat → Prop}
theorem lw_lcmp (hexec : p.tables.exec = Jvm.exec) (hb : c.code = cc) {x y : Int64} (hxy : x = y) (hdg : decode cc pc = .ok (.lcmp, 1))
    (k : W p l e R s m args below meth c H locs cells slots Q (F0 m (pc + 1) ls (.int 0 :: rest))) : W p l e R s m args below meth c H locs cells slots Q (F0 m pc ls (.long y :: .long x :: rest)) := by
  subst hxy
  intro T hT X
  obtain ⟨t, a, b⟩ := k T hT X
  refine ⟨t, ?_, b⟩
  jvm_step X.here [X.here.top, hexec, hb, hdg]
  simpa using a
theorem lw_sld (hexec : p.tables.exec = Jvm.exec) (hb : c.code = cc) {b L : Nat} {xs : Nat → Int32} {H0 : Heap} (hX : va_X b L xs s H0) (hbl : b < H0.size) (hbA : ¬ A b) (hS : va_S A H0 H locs) {k : Nat} (hk : k < L) (hL : L < 2 ^ 31) (hdg : decode cc pc = .ok (.iaload, 1))
    (kk : W p l e R s m args below meth c H locs cells slots Q (F0 m (pc + 1) ls (.int (xs k) :: rest))) : W p l e R s m args below meth c H locs cells slots Q (F0 m pc ls (.int (nI k) :: .ref b :: rest)) := by
  refine va_sld hexec hb hX hbl hbA hS (vp_in_nI hk hL) hdg ?_
  rw [nI_clamp (by omega)]; exact kk
end LWR
theorem KB.out {h h1 : fh_H} {med : Nat} (k : KB h h1 med) (out : Nat) : ∀ b e, h b = some e → b ≠ med → b ≠ out → oth e → h1 b = some e := fun b e hb n _ w => k b e hb n w
/-- the names that stay: none of the reference's cells, nor the answer's, is the media -/
def CNt (med md out : Nat) (ad : Nat → Nat) : Prop := md ≠ med ∧ out ≠ med ∧ out ≠ md ∧ ∀ k, isA k = true → ad k ≠ med ∧ ad k ≠ out
/-- the layer and the reference hold the same -/
def LSt (E : fh_E) (h : fh_H) (bl med md out : Nat) (ad : Nat → Nat) (S : mS) (t N : Nat) : Prop := ALy E h bl med S ∧ Inv S t ∧ NB S N ∧ (∃ sc ar, MDs E h md ad sc ar ∧ RM sc ar S) ∧ ∃ f : Nat → Int64, h out = some (.inl (fh_cJ E, 1, .inr (.inl f)))
theorem oth_a {E : fh_E} {k n : Nat} {f : Nat → Int32} : oth (.inl (acls E k, n, .inl f)) := trivial
theorem MDs.keepB {E : fh_E} {h h1 : fh_H} {md med out : Nat} {ad : Nat → Nat} {sc : Nat → Int32} {ar : Nat → Nat → Int32} (hM : MDs E h md ad sc ar) (C : CNt med md out ad) (hk : ∀ b e, h b = some e → b ≠ med → b ≠ out → oth e → h1 b = some e) : MDs E h1 md ad sc ar := by
  obtain ⟨h1', h2, h3⟩ := hM
  exact ⟨hk _ _ h1' C.1 (Ne.symm C.2.2.1) rfl, fun k hk9 => hk _ _ (h2 k hk9) (C.2.2.2 k hk9).1 (C.2.2.2 k hk9).2 trivial, h3⟩
theorem ALy.keepM {E : fh_E} {h h1 : fh_H} {bl med md out : Nat} {ad : Nat → Nat} {S : mS} {sc : Nat → Int32} {ar : Nat → Nat → Int32} (hA : ALy E h bl med S) (hM : MDs E h md ad sc ar) (C : CNt med md out ad) (e0 : h (fh_ed E) = none) (e1 : h1 (fh_ed E) = none) (hk : KM h h1 md ad) : ALy E h1 bl med S := by
  refine hA.keep e0 e1 (fun b e hb z => hk b e hb (fun w => ?_) (fun k hk9 w => ?_))
  · rw [w, hM.1] at hb; cases hb
    exact z.elim (fun u => C.1 (w.symm.trans u)) (fun u => u rfl)
  · rw [w, hM.2.1 k hk9] at hb; cases hb
    exact z.elim (fun u => (C.2.2.2 k hk9).1 (w.symm.trans u)) (fun u => u trivial)
/-- the reference has done the call, too -/
theorem KM.outK {E : fh_E} {h h1 : fh_H} {med md out : Nat} {ad : Nat → Nat} {f : Nat → Int64} (hk : KM h h1 md ad) (C : CNt med md out ad) (ho : h out = some (.inl (fh_cJ E, 1, .inr (.inl f)))) : h1 out = some (.inl (fh_cJ E, 1, .inr (.inl f))) := hk _ _ ho C.2.2.1 (fun k hk9 => Ne.symm (C.2.2.2 k hk9).2)
theorem blk_or (b : Int32) : (b.toInt < 0 ∨ (256 : Int) ≤ b.toInt) ∨ ∃ n, n < 256 ∧ b = nI n := by
  by_cases c1 : b < 0
  · exact Or.inl (Or.inl (Int32.lt_iff_toInt_lt.mp c1))
  · obtain ⟨j, hj, e⟩ := nI_of c1
    by_cases c2 : j < 256
    · exact Or.inr ⟨j, c2, e⟩
    · exact Or.inl (Or.inr (by rw [e, nI_toInt hj]; omega))
theorem pol_or (b : Int32) : (b.toInt < 0 ∨ (5 : Int) ≤ b.toInt) ∨ ∃ n, n < 5 ∧ b = nI n := by
  by_cases c1 : b < 0
  · exact Or.inl (Or.inl (Int32.lt_iff_toInt_lt.mp c1))
  · obtain ⟨j, hj, e⟩ := nI_of c1
    by_cases c2 : j < 5
    · exact Or.inr ⟨j, c2, e⟩
    · exact Or.inl (Or.inr (by rw [e, nI_toInt hj]; omega))
theorem stp_or (b : Int32) : (b.toInt < 1 ∨ (1000 : Int) < b.toInt) ∨ ∃ n, 1 ≤ n ∧ n ≤ 1000 ∧ b = nI n := by
  by_cases c1 : b < 0
  · exact Or.inl (Or.inl (Int.lt_trans (Int32.lt_iff_toInt_lt.mp c1) (by decide)))
  · obtain ⟨j, hj, e⟩ := nI_of c1
    by_cases c2 : 1 ≤ j ∧ j ≤ 1000
    · exact Or.inr ⟨j, c2.1, c2.2, e⟩
    · exact Or.inl (by rw [e, nI_toInt hj]; omega)
/-- all that the law's rows ask -/
def LCt (p : Program) (l : Launch) (s : State) (m : MethodId) (args : Array Value) (c : Code) (A : Nat → Prop) (E : fh_E) (b L : Nat) (xs : Nat → Int32) : Prop := p.tables.exec = Jvm.exec ∧ c.code = b_LW_law ∧ c.maxLocals = 7 ∧ s.vm.findClass R_LW = some m.cls ∧ (∀ w ∈ G, w.before args s = true) ∧ va_K E.1 vwCl (fh_ty E) s ∧ fh_Z E A s s.heap ∧ (∀ q : Nat, s.heap.size ≤ q → A q) ∧ l.flags = pinnedFlags ++ [noTraceFlag] ∧ va_X b L xs s s.heap ∧ b < s.heap.size ∧ ¬ A b
set_option maxHeartbeats 800000 in
set_option maxRecDepth 100000 in
theorem law_c0 {p : Program} {l : Launch} {e : Env} {s : State} {m : MethodId} {args : Array Value} {below : List Frame} {meth : Method} {c : Code} {A : Nat → Prop} {E : fh_E} {b L : Nat} {xs : Nat → Int32} {Q : State → Prop} (C0 : LCt p l s m args c A E b L xs) {bl med md out k : Nat} {ad : Nat → Nat} (CC : CNt med md out ad) (hk3 : 3 * k + 3 ≤ L) (hL : L ≤ 1536) {h : fh_H} {S : mS} {t N : Nat} (HS : LSt E h bl med md out ad S t N) (ht : t ≤ 1640 * k) (hN : N ≤ 11 * k) {H : Heap} {locs : List Loc} {cells slots : Nat} (hc : cells ≤ 30 + 90 * k) (hs : slots ≤ 900 + 3362 * k) {ls : Array Slot} (hP : fh_P E.1 vwCl A h H) (hS : va_S A s.heap H locs) (hl : lv_has ls 7 [(4, .int (nI (3 * k))), (0, .ref b), (1, .ref bl), (2, .ref md), (3, .ref out)])
    (kk : ∀ (h2 : fh_H) (S2 : mS) (t2 N2 : Nat) (H2 : Heap) (locs2 : List Loc) (c2 s2 : Nat) (ls2 : Array Slot), LSt E h2 bl med md out ad S2 t2 N2 → t2 ≤ 1640 * (k + 1) → N2 ≤ 11 * (k + 1) → c2 ≤ 30 + 90 * (k + 1) → s2 ≤ 900 + 3362 * (k + 1) → fh_P E.1 vwCl A h2 H2 → va_S A s.heap H2 locs2 → lv_has ls2 7 [(4, .int (nI (3 * k))), (0, .ref b), (1, .ref bl), (2, .ref md), (3, .ref out)] → W p l e room_1 s m args below meth c H2 locs2 c2 s2 Q (F0 m 694 ls2 [])) : W p l e room_1 s m args below meth c H locs cells slots Q (F0 m 108 ls []) := by
  obtain ⟨hx, hb, hml, hown, hG, hK, hZ, hA, hfl, hX, hbl, hbA⟩ := C0
  obtain ⟨hS0, hI, hNB, ⟨sc, ar, hM, hR⟩, f0, hf0⟩ := HS
  have ed0 := hZ.edn hP
  obtain ⟨dk_x_1, rq_x_1, sv_x_1, hB_x_1⟩ := hS0
  obtain ⟨bcs_x_1, qu_x_1, cs_x_1, kb0, -⟩ := hB_x_1.cells
  have hS0 : ALy E h bl med S := ⟨dk_x_1, rq_x_1, sv_x_1, hB_x_1⟩
  have km_2 : h md = some (.inr (7, [.int (sc 0), .int (sc 1), .int (sc 2), .int (sc 3), .int (sc 4), .int (sc 5), .int (sc 6), .int (sc 7), .int (sc 8), .ref (ad 9), .int (sc 10), .ref (ad 11), .ref (ad 12), .ref (ad 13), .int (sc 14), .int (sc 15), .ref (ad 16), .ref (ad 17), .ref (ad 18), .ref (ad 19), .ref (ad 20), .int (sc 21), .ref (ad 22), .ref (ad 23), .int (sc 24), .int (sc 25), .int (sc 26), .int (sc 27), .int (sc 28)])) := hM.1
  rcases blk_or (xs (3 * k + 1)) with hbad | ⟨n, hn, en⟩
  · skip
    refine lv_aload_n hx hb d_LW_law_108 rfl (lv_at hl 2 rfl) ?_
    refine lv_aload_n hx hb d_LW_law_109 rfl (lv_at hl 1 rfl) ?_
    refine lv_iload hx hb d_LW_law_110 (lv_at hl 0 rfl) ?_
    refine lv_iconst (v := 1) hx hb d_LW_law_112 (by decide) ?_
    refine lv_iadd hx hb d_LW_law_113 ?_
    refine W.eq (g2 := F0 m 114 ls [.int (nI (3 * k + 1)), .ref b, .ref bl]) (by rw [nI_1]) ?_
    refine lw_sld hx hb hX hbl hbA hS (by omega) (by omega) d_LW_law_114 ?_
    refine lv_aload_n hx hb d_LW_law_115 rfl (lv_at hl 4 rfl) ?_
    refine lw_callS (y := y_LW_load) (bytes := b_LW_load) (maxL := 4) (ret := (some .int)) (hh := [(0, 9, 12, 13), (0, 9, 15, 15)]) (index := 46) (As := [.ref bl, .int (xs (3 * k + 1)), .ref out]) (rest := []) ⟨hx, hb, hml, hown, hG⟩ (c_LW_load_b l E h bl med S t hS0 hI out hfl (xs (3 * k + 1)) hbad) rfl rfl rfl (Nat.le_of_ble_eq_true rfl) (Nat.le_of_ble_eq_true rfl) (pay_in hG (gBW gm431)) (hG _ gm0) (hG _ gm429) (hG _ gm430) hdy_LW_load hK hZ hP hS hA rfl hl.1 rfl (Nat.le_of_ble_eq_true rfl) d_LW_law_116 ⟨Nat.le_trans (m := 60000) (by omega) lw_rc, Nat.le_trans (m := 2000000) (by omega) lw_rs⟩ (fun r h1 H locs hq9 hP hS => ?_)
    obtain ⟨rfl, e9⟩ := hq9
    rw [e9] at hP
    refine W.eq (g2 := F0 m 119 ls [.int 1]) rfl ?_
    have ed1 := hZ.edn hP
    have hM1 := hM
    have hA1 := hS0
    refine lv_istore (lv' := [(5, .int 1), (4, .int (nI (3 * k))), (0, .ref b), (1, .ref bl), (2, .ref md), (3, .ref out)]) hx hb d_LW_law_119 hl (by decide) rfl (fun ls hl => ?_)
    refine lv_aload_n hx hb d_LW_law_121 rfl (lv_at hl 4 rfl) ?_
    refine lv_aload_n hx hb d_LW_law_122 rfl (lv_at hl 2 rfl) ?_
    refine lv_iload hx hb d_LW_law_123 (lv_at hl 1 rfl) ?_
    refine lv_iconst (v := 1) hx hb d_LW_law_125 (by decide) ?_
    refine lv_iadd hx hb d_LW_law_126 ?_
    refine W.eq (g2 := F0 m 127 ls [.int (nI (3 * k + 1)), .ref b, .ref md]) (by rw [nI_1]) ?_
    refine lw_sld hx hb hX hbl hbA hS (by omega) (by omega) d_LW_law_127 ?_
    refine fh_callV (C := R_MD) (y := y_MD_load) (bytes := b_MD_load) (maxL := 5) (ret := (some .int)) (index := 51) (As := [.int (xs (3 * k + 1))]) (rest := []) ⟨hx, hb, hml, hown, hG⟩ (c_MD_load_b l E h md ad sc ar hM1 S t hR hI (xs (3 * k + 1)) hbad) (cwV 1 hG (gV gm766 gm767 gm768 gm8 gm769) rfl rfl rfl ⟨rfl, hdy_MD_load⟩ ⟨Nat.le_of_ble_eq_true rfl, Nat.le_of_ble_eq_true rfl⟩) C_MD.1 km_2 hK hZ hP hS hA rfl hl.1 rfl (Nat.le_of_ble_eq_true rfl) d_LW_law_128 ⟨Nat.le_trans (m := 60000) (by omega) lw_rc, Nat.le_trans (m := 2000000) (by omega) lw_rs⟩ (fun r h2 H locs hq9 hP hS => ?_)
    obtain ⟨rfl, sc2, ar2, hM2, hR2, c2, K2⟩ := hq9
    refine W.eq (g2 := F0 m 131 ls [.int 0]) rfl ?_
    have ed2 := hZ.edn hP
    have hA2 := hA1.keepM hM1 CC ed1 ed2 K2
    have hf9 := K2.outK CC hf0
    have km_3 : h2 md = some (.inr (7, [.int (sc2 0), .int (sc2 1), .int (sc2 2), .int (sc2 3), .int (sc2 4), .int (sc2 5), .int (sc2 6), .int (sc2 7), .int (sc2 8), .ref (ad 9), .int (sc2 10), .ref (ad 11), .ref (ad 12), .ref (ad 13), .int (sc2 14), .int (sc2 15), .ref (ad 16), .ref (ad 17), .ref (ad 18), .ref (ad 19), .ref (ad 20), .int (sc2 21), .ref (ad 22), .ref (ad 23), .int (sc2 24), .int (sc2 25), .int (sc2 26), .int (sc2 27), .int (sc2 28)])) := hM2.1
    refine lv_istore (lv' := [(6, .int 0), (5, .int 1), (4, .int (nI (3 * k))), (0, .ref b), (1, .ref bl), (2, .ref md), (3, .ref out)]) hx hb d_LW_law_131 hl (by decide) rfl (fun ls hl => ?_)
    refine lv_aload_n hx hb d_LW_law_133 rfl (lv_at hl 5 rfl) ?_
    refine fh_callV (C := R_MD) (y := y_MD_thrown) (bytes := b_MD_thrown) (maxL := 1) (ret := (some .int)) (index := 52) (As := []) (rest := []) ⟨hx, hb, hml, hown, hG⟩ (c_MD_thrown l E h2 md ad sc2 ar2 hM2) (cwV 0 hG (gV gm762 gm763 gm764 gm8 gm765) rfl rfl rfl ⟨rfl, hdy_MD_thrown⟩ ⟨Nat.le_of_ble_eq_true rfl, Nat.le_of_ble_eq_true rfl⟩) C_MD.1 km_3 hK hZ hP hS hA rfl hl.1 rfl (Nat.le_of_ble_eq_true rfl) d_LW_law_134 ⟨Nat.le_trans (m := 60000) (by omega) lw_rc, Nat.le_trans (m := 2000000) (by omega) lw_rs⟩ (fun r h1 H locs hq9 hP hS => ?_)
    obtain ⟨rfl, e9⟩ := hq9
    rw [e9] at hP
    refine W.eq (g2 := F0 m 137 ls [.int (sc2 0)]) rfl ?_
    refine W.eq (g2 := F0 m 137 ls [.int 1]) (by rw [c2]) ?_
    refine lv_iload hx hb d_LW_law_137 (lv_at hl 1 rfl) ?_
    refine lv_icmp_eq (tgt := 144) hx hb d_LW_law_139 (by decide) (fun c_4 => ?_) (fun c_4 => ?_)
    · skip
      refine lv_iload hx hb d_LW_law_144 (lv_at hl 1 rfl) ?_
      refine lv_if_ne (tgt := 161) hx hb d_LW_law_146 (by decide) (fun c_5 => ?_) (fun c_5 => ?_)
      · skip
        refine lv_goto (tgt := 694) hx hb d_LW_law_161 (by decide) ?_
        exact kk h2 (S) _ _ H locs _ _ ls ⟨hA2, hI, hNB, ⟨_, _, hM2, hR2⟩, _, hf9⟩ (by omega) (by omega) (by omega) (by omega) hP hS (lv_sub hl [2, 3, 4, 5, 6] rfl)
      · skip
        exact absurd c_5 (by decide)
    · skip
      exact absurd rfl c_4
  · by_cases hroom : S.q.length + 2 ≤ 40
    · skip
      refine lv_aload_n hx hb d_LW_law_108 rfl (lv_at hl 2 rfl) ?_
      refine lv_aload_n hx hb d_LW_law_109 rfl (lv_at hl 1 rfl) ?_
      refine lv_iload hx hb d_LW_law_110 (lv_at hl 0 rfl) ?_
      refine lv_iconst (v := 1) hx hb d_LW_law_112 (by decide) ?_
      refine lv_iadd hx hb d_LW_law_113 ?_
      refine W.eq (g2 := F0 m 114 ls [.int (nI (3 * k + 1)), .ref b, .ref bl]) (by rw [nI_1]) ?_
      refine lw_sld hx hb hX hbl hbA hS (by omega) (by omega) d_LW_law_114 ?_
      rw [en]
      refine lv_aload_n hx hb d_LW_law_115 rfl (lv_at hl 4 rfl) ?_
      refine lw_callS (y := y_LW_load) (bytes := b_LW_load) (maxL := 4) (ret := (some .int)) (hh := [(0, 9, 12, 13), (0, 9, 15, 15)]) (index := 46) (As := [.ref bl, .int (nI n), .ref out]) (rest := []) ⟨hx, hb, hml, hown, hG⟩ (c_LW_load l E h bl med S t hS0 hI out f0 hf0 CC.2.1 n hn hroom N hNB (by omega)) rfl rfl rfl (Nat.le_of_ble_eq_true rfl) (Nat.le_of_ble_eq_true rfl) (pay_in hG (gBW gm431)) (hG _ gm0) (hG _ gm429) (hG _ gm430) hdy_LW_load hK hZ hP hS hA rfl hl.1 rfl (Nat.le_of_ble_eq_true rfl) d_LW_law_116 ⟨Nat.le_trans (m := 60000) (by omega) lw_rc, Nat.le_trans (m := 2000000) (by omega) lw_rs⟩ (fun r h1 H locs hq9 hP hS => ?_)
      obtain ⟨rfl, ⟨f2, hf2, ef2⟩, hA1, hk1⟩ := hq9
      refine W.eq (g2 := F0 m 119 ls [.int 0]) rfl ?_
      have ed1 := hZ.edn hP
      have hM1 := hM.keepB CC hk1
      obtain ⟨dk_x_7, rq_x_7, sv_x_7, hB_x_7⟩ := hA1
      obtain ⟨bcs_x_7, qu_x_7, cs_x_7, kb_6, -⟩ := hB_x_7.cells
      have hA1 : ALy E h1 bl med ((loadM S (nI n)).1) := ⟨dk_x_7, rq_x_7, sv_x_7, hB_x_7⟩
      have km_8 : h1 md = some (.inr (7, [.int (sc 0), .int (sc 1), .int (sc 2), .int (sc 3), .int (sc 4), .int (sc 5), .int (sc 6), .int (sc 7), .int (sc 8), .ref (ad 9), .int (sc 10), .ref (ad 11), .ref (ad 12), .ref (ad 13), .int (sc 14), .int (sc 15), .ref (ad 16), .ref (ad 17), .ref (ad 18), .ref (ad 19), .ref (ad 20), .int (sc 21), .ref (ad 22), .ref (ad 23), .int (sc 24), .int (sc 25), .int (sc 26), .int (sc 27), .int (sc 28)])) := hM1.1
      refine lv_istore (lv' := [(5, .int 0), (4, .int (nI (3 * k))), (0, .ref b), (1, .ref bl), (2, .ref md), (3, .ref out)]) hx hb d_LW_law_119 hl (by decide) rfl (fun ls hl => ?_)
      refine lv_aload_n hx hb d_LW_law_121 rfl (lv_at hl 4 rfl) ?_
      refine lv_aload_n hx hb d_LW_law_122 rfl (lv_at hl 2 rfl) ?_
      refine lv_iload hx hb d_LW_law_123 (lv_at hl 1 rfl) ?_
      refine lv_iconst (v := 1) hx hb d_LW_law_125 (by decide) ?_
      refine lv_iadd hx hb d_LW_law_126 ?_
      refine W.eq (g2 := F0 m 127 ls [.int (nI (3 * k + 1)), .ref b, .ref md]) (by rw [nI_1]) ?_
      refine lw_sld hx hb hX hbl hbA hS (by omega) (by omega) d_LW_law_127 ?_
      rw [en]
      refine fh_callV (C := R_MD) (y := y_MD_load) (bytes := b_MD_load) (maxL := 5) (ret := (some .int)) (index := 51) (As := [.int (nI n)]) (rest := []) ⟨hx, hb, hml, hown, hG⟩ (c_MD_load l E h1 md ad sc ar hM1 S t hR hI N hNB (by omega) n hn hroom) (cwV 1 hG (gV gm766 gm767 gm768 gm8 gm769) rfl rfl rfl ⟨rfl, hdy_MD_load⟩ ⟨Nat.le_of_ble_eq_true rfl, Nat.le_of_ble_eq_true rfl⟩) C_MD.1 km_8 hK hZ hP hS hA rfl hl.1 rfl (Nat.le_of_ble_eq_true rfl) d_LW_law_128 ⟨Nat.le_trans (m := 60000) (by omega) lw_rc, Nat.le_trans (m := 2000000) (by omega) lw_rs⟩ (fun r h2 H locs hq9 hP hS => ?_)
      obtain ⟨rfl, sc2, ar2, hM2, hR2, c2, K2⟩ := hq9
      refine W.eq (g2 := F0 m 131 ls [.int ((loadM S (nI n)).2)]) rfl ?_
      have ed2 := hZ.edn hP
      have hA2 := hA1.keepM hM1 CC ed1 ed2 K2
      have hf9 := K2.outK CC hf2
      have km_9 : h2 md = some (.inr (7, [.int (sc2 0), .int (sc2 1), .int (sc2 2), .int (sc2 3), .int (sc2 4), .int (sc2 5), .int (sc2 6), .int (sc2 7), .int (sc2 8), .ref (ad 9), .int (sc2 10), .ref (ad 11), .ref (ad 12), .ref (ad 13), .int (sc2 14), .int (sc2 15), .ref (ad 16), .ref (ad 17), .ref (ad 18), .ref (ad 19), .ref (ad 20), .int (sc2 21), .ref (ad 22), .ref (ad 23), .int (sc2 24), .int (sc2 25), .int (sc2 26), .int (sc2 27), .int (sc2 28)])) := hM2.1
      refine lv_istore (lv' := [(6, .int ((loadM S (nI n)).2)), (5, .int 0), (4, .int (nI (3 * k))), (0, .ref b), (1, .ref bl), (2, .ref md), (3, .ref out)]) hx hb d_LW_law_131 hl (by decide) rfl (fun ls hl => ?_)
      refine lv_aload_n hx hb d_LW_law_133 rfl (lv_at hl 5 rfl) ?_
      refine fh_callV (C := R_MD) (y := y_MD_thrown) (bytes := b_MD_thrown) (maxL := 1) (ret := (some .int)) (index := 52) (As := []) (rest := []) ⟨hx, hb, hml, hown, hG⟩ (c_MD_thrown l E h2 md ad sc2 ar2 hM2) (cwV 0 hG (gV gm762 gm763 gm764 gm8 gm765) rfl rfl rfl ⟨rfl, hdy_MD_thrown⟩ ⟨Nat.le_of_ble_eq_true rfl, Nat.le_of_ble_eq_true rfl⟩) C_MD.1 km_9 hK hZ hP hS hA rfl hl.1 rfl (Nat.le_of_ble_eq_true rfl) d_LW_law_134 ⟨Nat.le_trans (m := 60000) (by omega) lw_rc, Nat.le_trans (m := 2000000) (by omega) lw_rs⟩ (fun r h1 H locs hq9 hP hS => ?_)
      obtain ⟨rfl, e9⟩ := hq9
      rw [e9] at hP
      refine W.eq (g2 := F0 m 137 ls [.int (sc2 0)]) rfl ?_
      refine W.eq (g2 := F0 m 137 ls [.int 0]) (by rw [c2]) ?_
      refine lv_iload hx hb d_LW_law_137 (lv_at hl 1 rfl) ?_
      refine lv_icmp_eq (tgt := 144) hx hb d_LW_law_139 (by decide) (fun c_10 => ?_) (fun c_10 => ?_)
      · skip
        refine lv_iload hx hb d_LW_law_144 (lv_at hl 1 rfl) ?_
        refine lv_if_ne (tgt := 161) hx hb d_LW_law_146 (by decide) (fun c_11 => ?_) (fun c_11 => ?_)
        · skip
          exact absurd rfl c_11
        · skip
          refine lv_aload_n hx hb d_LW_law_149 rfl (lv_at hl 6 rfl) ?_
          refine lv_iconst (v := 0) hx hb d_LW_law_150 (by decide) ?_
          refine fh_lald hx hb hK hP 1 hf9 rfl (vp_in_nI (n := 0) (N := 1) (by decide) (by decide)) d_LW_law_151 ?_
          refine lv_iload hx hb d_LW_law_152 (lv_at hl 0 rfl) ?_
          refine lv_i2l hx hb d_LW_law_154 rfl ?_
          refine lw_lcmp hx hb (by rw [show (0 : Int32).toNatClampNeg = 0 by decide]; exact ef2) d_LW_law_155 ?_
          refine lv_if_eq (tgt := 161) hx hb d_LW_law_156 (by decide) (fun c_12 => ?_) (fun c_12 => ?_)
          · skip
            obtain ⟨hI9, N2, hN8, hN9⟩ := hI.load (b := nI n) hNB ⟨n, hn, rfl⟩ hroom
            refine lv_goto (tgt := 694) hx hb d_LW_law_161 (by decide) ?_
            exact kk h2 ((loadM S (nI n)).1) _ _ H locs _ _ ls ⟨hA2, hI9, hN9, ⟨_, _, hM2, hR2⟩, _, hf9⟩ (by omega) (by omega) (by omega) (by omega) hP hS (lv_sub hl [2, 3, 4, 5, 6] rfl)
          · skip
            exact absurd rfl c_12
      · skip
        exact absurd rfl c_10
    · have hbad : 40 < S.q.length + 2 := by omega
      refine lv_aload_n hx hb d_LW_law_108 rfl (lv_at hl 2 rfl) ?_
      refine lv_aload_n hx hb d_LW_law_109 rfl (lv_at hl 1 rfl) ?_
      refine lv_iload hx hb d_LW_law_110 (lv_at hl 0 rfl) ?_
      refine lv_iconst (v := 1) hx hb d_LW_law_112 (by decide) ?_
      refine lv_iadd hx hb d_LW_law_113 ?_
      refine W.eq (g2 := F0 m 114 ls [.int (nI (3 * k + 1)), .ref b, .ref bl]) (by rw [nI_1]) ?_
      refine lw_sld hx hb hX hbl hbA hS (by omega) (by omega) d_LW_law_114 ?_
      rw [en]
      refine lv_aload_n hx hb d_LW_law_115 rfl (lv_at hl 4 rfl) ?_
      refine lw_callS (y := y_LW_load) (bytes := b_LW_load) (maxL := 4) (ret := (some .int)) (hh := [(0, 9, 12, 13), (0, 9, 15, 15)]) (index := 46) (As := [.ref bl, .int (nI n), .ref out]) (rest := []) ⟨hx, hb, hml, hown, hG⟩ (c_LW_load_q l E h bl med S t hS0 hI out hfl n hn hbad) rfl rfl rfl (Nat.le_of_ble_eq_true rfl) (Nat.le_of_ble_eq_true rfl) (pay_in hG (gBW gm431)) (hG _ gm0) (hG _ gm429) (hG _ gm430) hdy_LW_load hK hZ hP hS hA rfl hl.1 rfl (Nat.le_of_ble_eq_true rfl) d_LW_law_116 ⟨Nat.le_trans (m := 60000) (by omega) lw_rc, Nat.le_trans (m := 2000000) (by omega) lw_rs⟩ (fun r h1 H locs hq9 hP hS => ?_)
      obtain ⟨rfl, e9⟩ := hq9
      rw [e9] at hP
      refine W.eq (g2 := F0 m 119 ls [.int 2]) rfl ?_
      have ed1 := hZ.edn hP
      have hM1 := hM
      have hA1 := hS0
      refine lv_istore (lv' := [(5, .int 2), (4, .int (nI (3 * k))), (0, .ref b), (1, .ref bl), (2, .ref md), (3, .ref out)]) hx hb d_LW_law_119 hl (by decide) rfl (fun ls hl => ?_)
      refine lv_aload_n hx hb d_LW_law_121 rfl (lv_at hl 4 rfl) ?_
      refine lv_aload_n hx hb d_LW_law_122 rfl (lv_at hl 2 rfl) ?_
      refine lv_iload hx hb d_LW_law_123 (lv_at hl 1 rfl) ?_
      refine lv_iconst (v := 1) hx hb d_LW_law_125 (by decide) ?_
      refine lv_iadd hx hb d_LW_law_126 ?_
      refine W.eq (g2 := F0 m 127 ls [.int (nI (3 * k + 1)), .ref b, .ref md]) (by rw [nI_1]) ?_
      refine lw_sld hx hb hX hbl hbA hS (by omega) (by omega) d_LW_law_127 ?_
      rw [en]
      refine fh_callV (C := R_MD) (y := y_MD_load) (bytes := b_MD_load) (maxL := 5) (ret := (some .int)) (index := 51) (As := [.int (nI n)]) (rest := []) ⟨hx, hb, hml, hown, hG⟩ (c_MD_load_q l E h md ad sc ar hM1 S t hR hI n hn hbad) (cwV 1 hG (gV gm766 gm767 gm768 gm8 gm769) rfl rfl rfl ⟨rfl, hdy_MD_load⟩ ⟨Nat.le_of_ble_eq_true rfl, Nat.le_of_ble_eq_true rfl⟩) C_MD.1 km_2 hK hZ hP hS hA rfl hl.1 rfl (Nat.le_of_ble_eq_true rfl) d_LW_law_128 ⟨Nat.le_trans (m := 60000) (by omega) lw_rc, Nat.le_trans (m := 2000000) (by omega) lw_rs⟩ (fun r h2 H locs hq9 hP hS => ?_)
      obtain ⟨rfl, sc2, ar2, hM2, hR2, c2, K2⟩ := hq9
      refine W.eq (g2 := F0 m 131 ls [.int 0]) rfl ?_
      have ed2 := hZ.edn hP
      have hA2 := hA1.keepM hM1 CC ed1 ed2 K2
      have hf9 := K2.outK CC hf0
      have km_13 : h2 md = some (.inr (7, [.int (sc2 0), .int (sc2 1), .int (sc2 2), .int (sc2 3), .int (sc2 4), .int (sc2 5), .int (sc2 6), .int (sc2 7), .int (sc2 8), .ref (ad 9), .int (sc2 10), .ref (ad 11), .ref (ad 12), .ref (ad 13), .int (sc2 14), .int (sc2 15), .ref (ad 16), .ref (ad 17), .ref (ad 18), .ref (ad 19), .ref (ad 20), .int (sc2 21), .ref (ad 22), .ref (ad 23), .int (sc2 24), .int (sc2 25), .int (sc2 26), .int (sc2 27), .int (sc2 28)])) := hM2.1
      refine lv_istore (lv' := [(6, .int 0), (5, .int 2), (4, .int (nI (3 * k))), (0, .ref b), (1, .ref bl), (2, .ref md), (3, .ref out)]) hx hb d_LW_law_131 hl (by decide) rfl (fun ls hl => ?_)
      refine lv_aload_n hx hb d_LW_law_133 rfl (lv_at hl 5 rfl) ?_
      refine fh_callV (C := R_MD) (y := y_MD_thrown) (bytes := b_MD_thrown) (maxL := 1) (ret := (some .int)) (index := 52) (As := []) (rest := []) ⟨hx, hb, hml, hown, hG⟩ (c_MD_thrown l E h2 md ad sc2 ar2 hM2) (cwV 0 hG (gV gm762 gm763 gm764 gm8 gm765) rfl rfl rfl ⟨rfl, hdy_MD_thrown⟩ ⟨Nat.le_of_ble_eq_true rfl, Nat.le_of_ble_eq_true rfl⟩) C_MD.1 km_13 hK hZ hP hS hA rfl hl.1 rfl (Nat.le_of_ble_eq_true rfl) d_LW_law_134 ⟨Nat.le_trans (m := 60000) (by omega) lw_rc, Nat.le_trans (m := 2000000) (by omega) lw_rs⟩ (fun r h1 H locs hq9 hP hS => ?_)
      obtain ⟨rfl, e9⟩ := hq9
      rw [e9] at hP
      refine W.eq (g2 := F0 m 137 ls [.int (sc2 0)]) rfl ?_
      refine W.eq (g2 := F0 m 137 ls [.int 2]) (by rw [c2]) ?_
      refine lv_iload hx hb d_LW_law_137 (lv_at hl 1 rfl) ?_
      refine lv_icmp_eq (tgt := 144) hx hb d_LW_law_139 (by decide) (fun c_14 => ?_) (fun c_14 => ?_)
      · skip
        refine lv_iload hx hb d_LW_law_144 (lv_at hl 1 rfl) ?_
        refine lv_if_ne (tgt := 161) hx hb d_LW_law_146 (by decide) (fun c_15 => ?_) (fun c_15 => ?_)
        · skip
          refine lv_goto (tgt := 694) hx hb d_LW_law_161 (by decide) ?_
          exact kk h2 (S) _ _ H locs _ _ ls ⟨hA2, hI, hNB, ⟨_, _, hM2, hR2⟩, _, hf9⟩ (by omega) (by omega) (by omega) (by omega) hP hS (lv_sub hl [2, 3, 4, 5, 6] rfl)
        · skip
          exact absurd c_15 (by decide)
      · skip
        exact absurd rfl c_14

set_option maxHeartbeats 800000 in
set_option maxRecDepth 100000 in
theorem law_c1 {p : Program} {l : Launch} {e : Env} {s : State} {m : MethodId} {args : Array Value} {below : List Frame} {meth : Method} {c : Code} {A : Nat → Prop} {E : fh_E} {b L : Nat} {xs : Nat → Int32} {Q : State → Prop} (C0 : LCt p l s m args c A E b L xs) {bl med md out k : Nat} {ad : Nat → Nat} (CC : CNt med md out ad) (hk3 : 3 * k + 3 ≤ L) (hL : L ≤ 1536) {h : fh_H} {S : mS} {t N : Nat} (HS : LSt E h bl med md out ad S t N) (ht : t ≤ 1640 * k) (hN : N ≤ 11 * k) {H : Heap} {locs : List Loc} {cells slots : Nat} (hc : cells ≤ 30 + 90 * k) (hs : slots ≤ 900 + 3362 * k) {ls : Array Slot} (hP : fh_P E.1 vwCl A h H) (hS : va_S A s.heap H locs) (hl : lv_has ls 7 [(4, .int (nI (3 * k))), (0, .ref b), (1, .ref bl), (2, .ref md), (3, .ref out)])
    (kk : ∀ (h2 : fh_H) (S2 : mS) (t2 N2 : Nat) (H2 : Heap) (locs2 : List Loc) (c2 s2 : Nat) (ls2 : Array Slot), LSt E h2 bl med md out ad S2 t2 N2 → t2 ≤ 1640 * (k + 1) → N2 ≤ 11 * (k + 1) → c2 ≤ 30 + 90 * (k + 1) → s2 ≤ 900 + 3362 * (k + 1) → fh_P E.1 vwCl A h2 H2 → va_S A s.heap H2 locs2 → lv_has ls2 7 [(4, .int (nI (3 * k))), (0, .ref b), (1, .ref bl), (2, .ref md), (3, .ref out)] → W p l e room_1 s m args below meth c H2 locs2 c2 s2 Q (F0 m 694 ls2 [])) : W p l e room_1 s m args below meth c H locs cells slots Q (F0 m 164 ls []) := by
  obtain ⟨hx, hb, hml, hown, hG, hK, hZ, hA, hfl, hX, hbl, hbA⟩ := C0
  obtain ⟨hS0, hI, hNB, ⟨sc, ar, hM, hR⟩, f0, hf0⟩ := HS
  have ed0 := hZ.edn hP
  obtain ⟨dk_x_1, rq_x_1, sv_x_1, hB_x_1⟩ := hS0
  obtain ⟨bcs_x_1, qu_x_1, cs_x_1, kb0, -⟩ := hB_x_1.cells
  have hS0 : ALy E h bl med S := ⟨dk_x_1, rq_x_1, sv_x_1, hB_x_1⟩
  have km_2 : h md = some (.inr (7, [.int (sc 0), .int (sc 1), .int (sc 2), .int (sc 3), .int (sc 4), .int (sc 5), .int (sc 6), .int (sc 7), .int (sc 8), .ref (ad 9), .int (sc 10), .ref (ad 11), .ref (ad 12), .ref (ad 13), .int (sc 14), .int (sc 15), .ref (ad 16), .ref (ad 17), .ref (ad 18), .ref (ad 19), .ref (ad 20), .int (sc 21), .ref (ad 22), .ref (ad 23), .int (sc 24), .int (sc 25), .int (sc 26), .int (sc 27), .int (sc 28)])) := hM.1
  rcases blk_or (xs (3 * k + 1)) with hbad | ⟨n, hn, en⟩
  · skip
    refine lv_aload_n hx hb d_LW_law_164 rfl (lv_at hl 2 rfl) ?_
    refine lv_aload_n hx hb d_LW_law_165 rfl (lv_at hl 1 rfl) ?_
    refine lv_iload hx hb d_LW_law_166 (lv_at hl 0 rfl) ?_
    refine lv_iconst (v := 1) hx hb d_LW_law_168 (by decide) ?_
    refine lv_iadd hx hb d_LW_law_169 ?_
    refine W.eq (g2 := F0 m 170 ls [.int (nI (3 * k + 1)), .ref b, .ref bl]) (by rw [nI_1]) ?_
    refine lw_sld hx hb hX hbl hbA hS (by omega) (by omega) d_LW_law_170 ?_
    refine lv_aload_n hx hb d_LW_law_171 rfl (lv_at hl 1 rfl) ?_
    refine lv_iload hx hb d_LW_law_172 (lv_at hl 0 rfl) ?_
    refine lv_iconst (v := 2) hx hb d_LW_law_174 (by decide) ?_
    refine lv_iadd hx hb d_LW_law_175 ?_
    refine W.eq (g2 := F0 m 176 ls [.int (nI (3 * k + 2)), .ref b, .int (xs (3 * k + 1)), .ref bl]) (by rw [show (2 : Int32) = nI 2 from rfl, nI_add]) ?_
    refine lw_sld hx hb hX hbl hbA hS (by omega) (by omega) d_LW_law_176 ?_
    refine lv_aload_n hx hb d_LW_law_177 rfl (lv_at hl 4 rfl) ?_
    refine lw_callS (y := y_LW_save) (bytes := b_LW_save) (maxL := 5) (ret := (some .int)) (hh := [(0, 10, 13, 13), (0, 10, 17, 15)]) (index := 55) (As := [.ref bl, .int (xs (3 * k + 1)), .int (xs (3 * k + 2)), .ref out]) (rest := []) ⟨hx, hb, hml, hown, hG⟩ (c_LW_save_b l E h bl med S t hS0 hI out hfl (xs (3 * k + 1)) hbad (xs (3 * k + 2))) rfl rfl rfl (Nat.le_of_ble_eq_true rfl) (Nat.le_of_ble_eq_true rfl) (pay_in hG (gBW gm594)) (hG _ gm0) (hG _ gm592) (hG _ gm593) hdy_LW_save hK hZ hP hS hA rfl hl.1 rfl (Nat.le_of_ble_eq_true rfl) d_LW_law_178 ⟨Nat.le_trans (m := 60000) (by omega) lw_rc, Nat.le_trans (m := 2000000) (by omega) lw_rs⟩ (fun r h1 H locs hq9 hP hS => ?_)
    obtain ⟨rfl, e9⟩ := hq9
    rw [e9] at hP
    refine W.eq (g2 := F0 m 181 ls [.int 1]) rfl ?_
    have ed1 := hZ.edn hP
    have hM1 := hM
    have hA1 := hS0
    refine lv_istore (lv' := [(5, .int 1), (4, .int (nI (3 * k))), (0, .ref b), (1, .ref bl), (2, .ref md), (3, .ref out)]) hx hb d_LW_law_181 hl (by decide) rfl (fun ls hl => ?_)
    refine lv_aload_n hx hb d_LW_law_183 rfl (lv_at hl 4 rfl) ?_
    refine lv_aload_n hx hb d_LW_law_184 rfl (lv_at hl 2 rfl) ?_
    refine lv_iload hx hb d_LW_law_185 (lv_at hl 1 rfl) ?_
    refine lv_iconst (v := 1) hx hb d_LW_law_187 (by decide) ?_
    refine lv_iadd hx hb d_LW_law_188 ?_
    refine W.eq (g2 := F0 m 189 ls [.int (nI (3 * k + 1)), .ref b, .ref md]) (by rw [nI_1]) ?_
    refine lw_sld hx hb hX hbl hbA hS (by omega) (by omega) d_LW_law_189 ?_
    refine lv_aload_n hx hb d_LW_law_190 rfl (lv_at hl 2 rfl) ?_
    refine lv_iload hx hb d_LW_law_191 (lv_at hl 1 rfl) ?_
    refine lv_iconst (v := 2) hx hb d_LW_law_193 (by decide) ?_
    refine lv_iadd hx hb d_LW_law_194 ?_
    refine W.eq (g2 := F0 m 195 ls [.int (nI (3 * k + 2)), .ref b, .int (xs (3 * k + 1)), .ref md]) (by rw [show (2 : Int32) = nI 2 from rfl, nI_add]) ?_
    refine lw_sld hx hb hX hbl hbA hS (by omega) (by omega) d_LW_law_195 ?_
    refine fh_callV (C := R_MD) (y := y_MD_save) (bytes := b_MD_save) (maxL := 5) (ret := (some .int)) (index := 58) (As := [.int (xs (3 * k + 1)), .int (xs (3 * k + 2))]) (rest := []) ⟨hx, hb, hml, hown, hG⟩ (c_MD_save_b l E h md ad sc ar hM1 S t hR hI (xs (3 * k + 1)) hbad (xs (3 * k + 2))) (cwV 2 hG (gV gm837 gm838 gm839 gm8 gm840) rfl rfl rfl ⟨rfl, hdy_MD_save⟩ ⟨Nat.le_of_ble_eq_true rfl, Nat.le_of_ble_eq_true rfl⟩) C_MD.1 km_2 hK hZ hP hS hA rfl hl.1 rfl (Nat.le_of_ble_eq_true rfl) d_LW_law_196 ⟨Nat.le_trans (m := 60000) (by omega) lw_rc, Nat.le_trans (m := 2000000) (by omega) lw_rs⟩ (fun r h2 H locs hq9 hP hS => ?_)
    obtain ⟨rfl, sc2, ar2, hM2, hR2, c2, K2⟩ := hq9
    refine W.eq (g2 := F0 m 199 ls [.int 0]) rfl ?_
    have ed2 := hZ.edn hP
    have hA2 := hA1.keepM hM1 CC ed1 ed2 K2
    have hf9 := K2.outK CC hf0
    have km_3 : h2 md = some (.inr (7, [.int (sc2 0), .int (sc2 1), .int (sc2 2), .int (sc2 3), .int (sc2 4), .int (sc2 5), .int (sc2 6), .int (sc2 7), .int (sc2 8), .ref (ad 9), .int (sc2 10), .ref (ad 11), .ref (ad 12), .ref (ad 13), .int (sc2 14), .int (sc2 15), .ref (ad 16), .ref (ad 17), .ref (ad 18), .ref (ad 19), .ref (ad 20), .int (sc2 21), .ref (ad 22), .ref (ad 23), .int (sc2 24), .int (sc2 25), .int (sc2 26), .int (sc2 27), .int (sc2 28)])) := hM2.1
    refine lv_istore (lv' := [(6, .int 0), (5, .int 1), (4, .int (nI (3 * k))), (0, .ref b), (1, .ref bl), (2, .ref md), (3, .ref out)]) hx hb d_LW_law_199 hl (by decide) rfl (fun ls hl => ?_)
    refine lv_aload_n hx hb d_LW_law_201 rfl (lv_at hl 5 rfl) ?_
    refine fh_callV (C := R_MD) (y := y_MD_thrown) (bytes := b_MD_thrown) (maxL := 1) (ret := (some .int)) (index := 52) (As := []) (rest := []) ⟨hx, hb, hml, hown, hG⟩ (c_MD_thrown l E h2 md ad sc2 ar2 hM2) (cwV 0 hG (gV gm762 gm763 gm764 gm8 gm765) rfl rfl rfl ⟨rfl, hdy_MD_thrown⟩ ⟨Nat.le_of_ble_eq_true rfl, Nat.le_of_ble_eq_true rfl⟩) C_MD.1 km_3 hK hZ hP hS hA rfl hl.1 rfl (Nat.le_of_ble_eq_true rfl) d_LW_law_202 ⟨Nat.le_trans (m := 60000) (by omega) lw_rc, Nat.le_trans (m := 2000000) (by omega) lw_rs⟩ (fun r h1 H locs hq9 hP hS => ?_)
    obtain ⟨rfl, e9⟩ := hq9
    rw [e9] at hP
    refine W.eq (g2 := F0 m 205 ls [.int (sc2 0)]) rfl ?_
    refine W.eq (g2 := F0 m 205 ls [.int 1]) (by rw [c2]) ?_
    refine lv_iload hx hb d_LW_law_205 (lv_at hl 1 rfl) ?_
    refine lv_icmp_eq (tgt := 212) hx hb d_LW_law_207 (by decide) (fun c_4 => ?_) (fun c_4 => ?_)
    · skip
      refine lv_iload hx hb d_LW_law_212 (lv_at hl 1 rfl) ?_
      refine lv_if_ne (tgt := 229) hx hb d_LW_law_214 (by decide) (fun c_5 => ?_) (fun c_5 => ?_)
      · skip
        refine lv_goto (tgt := 694) hx hb d_LW_law_229 (by decide) ?_
        exact kk h2 (S) _ _ H locs _ _ ls ⟨hA2, hI, hNB, ⟨_, _, hM2, hR2⟩, _, hf9⟩ (by omega) (by omega) (by omega) (by omega) hP hS (lv_sub hl [2, 3, 4, 5, 6] rfl)
      · skip
        exact absurd c_5 (by decide)
    · skip
      exact absurd rfl c_4
  · by_cases hroom : S.q.length + 2 ≤ 40
    · skip
      refine lv_aload_n hx hb d_LW_law_164 rfl (lv_at hl 2 rfl) ?_
      refine lv_aload_n hx hb d_LW_law_165 rfl (lv_at hl 1 rfl) ?_
      refine lv_iload hx hb d_LW_law_166 (lv_at hl 0 rfl) ?_
      refine lv_iconst (v := 1) hx hb d_LW_law_168 (by decide) ?_
      refine lv_iadd hx hb d_LW_law_169 ?_
      refine W.eq (g2 := F0 m 170 ls [.int (nI (3 * k + 1)), .ref b, .ref bl]) (by rw [nI_1]) ?_
      refine lw_sld hx hb hX hbl hbA hS (by omega) (by omega) d_LW_law_170 ?_
      rw [en]
      refine lv_aload_n hx hb d_LW_law_171 rfl (lv_at hl 1 rfl) ?_
      refine lv_iload hx hb d_LW_law_172 (lv_at hl 0 rfl) ?_
      refine lv_iconst (v := 2) hx hb d_LW_law_174 (by decide) ?_
      refine lv_iadd hx hb d_LW_law_175 ?_
      refine W.eq (g2 := F0 m 176 ls [.int (nI (3 * k + 2)), .ref b, .int (nI n), .ref bl]) (by rw [show (2 : Int32) = nI 2 from rfl, nI_add]) ?_
      refine lw_sld hx hb hX hbl hbA hS (by omega) (by omega) d_LW_law_176 ?_
      refine lv_aload_n hx hb d_LW_law_177 rfl (lv_at hl 4 rfl) ?_
      refine lw_callS (y := y_LW_save) (bytes := b_LW_save) (maxL := 5) (ret := (some .int)) (hh := [(0, 10, 13, 13), (0, 10, 17, 15)]) (index := 55) (As := [.ref bl, .int (nI n), .int (xs (3 * k + 2)), .ref out]) (rest := []) ⟨hx, hb, hml, hown, hG⟩ (c_LW_save l E h bl med S t hS0 hI out f0 hf0 CC.2.1 n hn hroom (xs (3 * k + 2))) rfl rfl rfl (Nat.le_of_ble_eq_true rfl) (Nat.le_of_ble_eq_true rfl) (pay_in hG (gBW gm594)) (hG _ gm0) (hG _ gm592) (hG _ gm593) hdy_LW_save hK hZ hP hS hA rfl hl.1 rfl (Nat.le_of_ble_eq_true rfl) d_LW_law_178 ⟨Nat.le_trans (m := 60000) (by omega) lw_rc, Nat.le_trans (m := 2000000) (by omega) lw_rs⟩ (fun r h1 H locs hq9 hP hS => ?_)
      obtain ⟨rfl, ⟨f2, hf2, ef2⟩, hA1, hk1⟩ := hq9
      refine W.eq (g2 := F0 m 181 ls [.int 0]) rfl ?_
      have ed1 := hZ.edn hP
      have hM1 := hM.keepB CC hk1
      obtain ⟨dk_x_7, rq_x_7, sv_x_7, hB_x_7⟩ := hA1
      obtain ⟨bcs_x_7, qu_x_7, cs_x_7, kb_6, -⟩ := hB_x_7.cells
      have hA1 : ALy E h1 bl med ((saveM S (nI n) (xs (3 * k + 2))).1) := ⟨dk_x_7, rq_x_7, sv_x_7, hB_x_7⟩
      have km_8 : h1 md = some (.inr (7, [.int (sc 0), .int (sc 1), .int (sc 2), .int (sc 3), .int (sc 4), .int (sc 5), .int (sc 6), .int (sc 7), .int (sc 8), .ref (ad 9), .int (sc 10), .ref (ad 11), .ref (ad 12), .ref (ad 13), .int (sc 14), .int (sc 15), .ref (ad 16), .ref (ad 17), .ref (ad 18), .ref (ad 19), .ref (ad 20), .int (sc 21), .ref (ad 22), .ref (ad 23), .int (sc 24), .int (sc 25), .int (sc 26), .int (sc 27), .int (sc 28)])) := hM1.1
      refine lv_istore (lv' := [(5, .int 0), (4, .int (nI (3 * k))), (0, .ref b), (1, .ref bl), (2, .ref md), (3, .ref out)]) hx hb d_LW_law_181 hl (by decide) rfl (fun ls hl => ?_)
      refine lv_aload_n hx hb d_LW_law_183 rfl (lv_at hl 4 rfl) ?_
      refine lv_aload_n hx hb d_LW_law_184 rfl (lv_at hl 2 rfl) ?_
      refine lv_iload hx hb d_LW_law_185 (lv_at hl 1 rfl) ?_
      refine lv_iconst (v := 1) hx hb d_LW_law_187 (by decide) ?_
      refine lv_iadd hx hb d_LW_law_188 ?_
      refine W.eq (g2 := F0 m 189 ls [.int (nI (3 * k + 1)), .ref b, .ref md]) (by rw [nI_1]) ?_
      refine lw_sld hx hb hX hbl hbA hS (by omega) (by omega) d_LW_law_189 ?_
      rw [en]
      refine lv_aload_n hx hb d_LW_law_190 rfl (lv_at hl 2 rfl) ?_
      refine lv_iload hx hb d_LW_law_191 (lv_at hl 1 rfl) ?_
      refine lv_iconst (v := 2) hx hb d_LW_law_193 (by decide) ?_
      refine lv_iadd hx hb d_LW_law_194 ?_
      refine W.eq (g2 := F0 m 195 ls [.int (nI (3 * k + 2)), .ref b, .int (nI n), .ref md]) (by rw [show (2 : Int32) = nI 2 from rfl, nI_add]) ?_
      refine lw_sld hx hb hX hbl hbA hS (by omega) (by omega) d_LW_law_195 ?_
      refine fh_callV (C := R_MD) (y := y_MD_save) (bytes := b_MD_save) (maxL := 5) (ret := (some .int)) (index := 58) (As := [.int (nI n), .int (xs (3 * k + 2))]) (rest := []) ⟨hx, hb, hml, hown, hG⟩ (c_MD_save l E h1 md ad sc ar hM1 S t hR hI N hNB (by omega) n hn hroom (xs (3 * k + 2))) (cwV 2 hG (gV gm837 gm838 gm839 gm8 gm840) rfl rfl rfl ⟨rfl, hdy_MD_save⟩ ⟨Nat.le_of_ble_eq_true rfl, Nat.le_of_ble_eq_true rfl⟩) C_MD.1 km_8 hK hZ hP hS hA rfl hl.1 rfl (Nat.le_of_ble_eq_true rfl) d_LW_law_196 ⟨Nat.le_trans (m := 60000) (by omega) lw_rc, Nat.le_trans (m := 2000000) (by omega) lw_rs⟩ (fun r h2 H locs hq9 hP hS => ?_)
      obtain ⟨rfl, sc2, ar2, hM2, hR2, c2, K2⟩ := hq9
      refine W.eq (g2 := F0 m 199 ls [.int ((saveM S (nI n) (xs (3 * k + 2))).2)]) rfl ?_
      have ed2 := hZ.edn hP
      have hA2 := hA1.keepM hM1 CC ed1 ed2 K2
      have hf9 := K2.outK CC hf2
      have km_9 : h2 md = some (.inr (7, [.int (sc2 0), .int (sc2 1), .int (sc2 2), .int (sc2 3), .int (sc2 4), .int (sc2 5), .int (sc2 6), .int (sc2 7), .int (sc2 8), .ref (ad 9), .int (sc2 10), .ref (ad 11), .ref (ad 12), .ref (ad 13), .int (sc2 14), .int (sc2 15), .ref (ad 16), .ref (ad 17), .ref (ad 18), .ref (ad 19), .ref (ad 20), .int (sc2 21), .ref (ad 22), .ref (ad 23), .int (sc2 24), .int (sc2 25), .int (sc2 26), .int (sc2 27), .int (sc2 28)])) := hM2.1
      refine lv_istore (lv' := [(6, .int ((saveM S (nI n) (xs (3 * k + 2))).2)), (5, .int 0), (4, .int (nI (3 * k))), (0, .ref b), (1, .ref bl), (2, .ref md), (3, .ref out)]) hx hb d_LW_law_199 hl (by decide) rfl (fun ls hl => ?_)
      refine lv_aload_n hx hb d_LW_law_201 rfl (lv_at hl 5 rfl) ?_
      refine fh_callV (C := R_MD) (y := y_MD_thrown) (bytes := b_MD_thrown) (maxL := 1) (ret := (some .int)) (index := 52) (As := []) (rest := []) ⟨hx, hb, hml, hown, hG⟩ (c_MD_thrown l E h2 md ad sc2 ar2 hM2) (cwV 0 hG (gV gm762 gm763 gm764 gm8 gm765) rfl rfl rfl ⟨rfl, hdy_MD_thrown⟩ ⟨Nat.le_of_ble_eq_true rfl, Nat.le_of_ble_eq_true rfl⟩) C_MD.1 km_9 hK hZ hP hS hA rfl hl.1 rfl (Nat.le_of_ble_eq_true rfl) d_LW_law_202 ⟨Nat.le_trans (m := 60000) (by omega) lw_rc, Nat.le_trans (m := 2000000) (by omega) lw_rs⟩ (fun r h1 H locs hq9 hP hS => ?_)
      obtain ⟨rfl, e9⟩ := hq9
      rw [e9] at hP
      refine W.eq (g2 := F0 m 205 ls [.int (sc2 0)]) rfl ?_
      refine W.eq (g2 := F0 m 205 ls [.int 0]) (by rw [c2]) ?_
      refine lv_iload hx hb d_LW_law_205 (lv_at hl 1 rfl) ?_
      refine lv_icmp_eq (tgt := 212) hx hb d_LW_law_207 (by decide) (fun c_10 => ?_) (fun c_10 => ?_)
      · skip
        refine lv_iload hx hb d_LW_law_212 (lv_at hl 1 rfl) ?_
        refine lv_if_ne (tgt := 229) hx hb d_LW_law_214 (by decide) (fun c_11 => ?_) (fun c_11 => ?_)
        · skip
          exact absurd rfl c_11
        · skip
          refine lv_aload_n hx hb d_LW_law_217 rfl (lv_at hl 6 rfl) ?_
          refine lv_iconst (v := 0) hx hb d_LW_law_218 (by decide) ?_
          refine fh_lald hx hb hK hP 1 hf9 rfl (vp_in_nI (n := 0) (N := 1) (by decide) (by decide)) d_LW_law_219 ?_
          refine lv_iload hx hb d_LW_law_220 (lv_at hl 0 rfl) ?_
          refine lv_i2l hx hb d_LW_law_222 rfl ?_
          refine lw_lcmp hx hb (by rw [show (0 : Int32).toNatClampNeg = 0 by decide]; exact ef2) d_LW_law_223 ?_
          refine lv_if_eq (tgt := 229) hx hb d_LW_law_224 (by decide) (fun c_12 => ?_) (fun c_12 => ?_)
          · skip
            obtain ⟨hI9, N2, hN8, hN9⟩ := hI.save (b := nI n) (v := (xs (3 * k + 2))) hNB ⟨n, hn, rfl⟩ (by omega)
            refine lv_goto (tgt := 694) hx hb d_LW_law_229 (by decide) ?_
            exact kk h2 ((saveM S (nI n) (xs (3 * k + 2))).1) _ _ H locs _ _ ls ⟨hA2, hI9, hN9, ⟨_, _, hM2, hR2⟩, _, hf9⟩ (by omega) (by omega) (by omega) (by omega) hP hS (lv_sub hl [2, 3, 4, 5, 6] rfl)
          · skip
            exact absurd rfl c_12
      · skip
        exact absurd rfl c_10
    · have hbad : 40 < S.q.length + 2 := by omega
      refine lv_aload_n hx hb d_LW_law_164 rfl (lv_at hl 2 rfl) ?_
      refine lv_aload_n hx hb d_LW_law_165 rfl (lv_at hl 1 rfl) ?_
      refine lv_iload hx hb d_LW_law_166 (lv_at hl 0 rfl) ?_
      refine lv_iconst (v := 1) hx hb d_LW_law_168 (by decide) ?_
      refine lv_iadd hx hb d_LW_law_169 ?_
      refine W.eq (g2 := F0 m 170 ls [.int (nI (3 * k + 1)), .ref b, .ref bl]) (by rw [nI_1]) ?_
      refine lw_sld hx hb hX hbl hbA hS (by omega) (by omega) d_LW_law_170 ?_
      rw [en]
      refine lv_aload_n hx hb d_LW_law_171 rfl (lv_at hl 1 rfl) ?_
      refine lv_iload hx hb d_LW_law_172 (lv_at hl 0 rfl) ?_
      refine lv_iconst (v := 2) hx hb d_LW_law_174 (by decide) ?_
      refine lv_iadd hx hb d_LW_law_175 ?_
      refine W.eq (g2 := F0 m 176 ls [.int (nI (3 * k + 2)), .ref b, .int (nI n), .ref bl]) (by rw [show (2 : Int32) = nI 2 from rfl, nI_add]) ?_
      refine lw_sld hx hb hX hbl hbA hS (by omega) (by omega) d_LW_law_176 ?_
      refine lv_aload_n hx hb d_LW_law_177 rfl (lv_at hl 4 rfl) ?_
      refine lw_callS (y := y_LW_save) (bytes := b_LW_save) (maxL := 5) (ret := (some .int)) (hh := [(0, 10, 13, 13), (0, 10, 17, 15)]) (index := 55) (As := [.ref bl, .int (nI n), .int (xs (3 * k + 2)), .ref out]) (rest := []) ⟨hx, hb, hml, hown, hG⟩ (c_LW_save_q l E h bl med S t hS0 hI out hfl n hn hbad (xs (3 * k + 2))) rfl rfl rfl (Nat.le_of_ble_eq_true rfl) (Nat.le_of_ble_eq_true rfl) (pay_in hG (gBW gm594)) (hG _ gm0) (hG _ gm592) (hG _ gm593) hdy_LW_save hK hZ hP hS hA rfl hl.1 rfl (Nat.le_of_ble_eq_true rfl) d_LW_law_178 ⟨Nat.le_trans (m := 60000) (by omega) lw_rc, Nat.le_trans (m := 2000000) (by omega) lw_rs⟩ (fun r h1 H locs hq9 hP hS => ?_)
      obtain ⟨rfl, e9⟩ := hq9
      rw [e9] at hP
      refine W.eq (g2 := F0 m 181 ls [.int 2]) rfl ?_
      have ed1 := hZ.edn hP
      have hM1 := hM
      have hA1 := hS0
      refine lv_istore (lv' := [(5, .int 2), (4, .int (nI (3 * k))), (0, .ref b), (1, .ref bl), (2, .ref md), (3, .ref out)]) hx hb d_LW_law_181 hl (by decide) rfl (fun ls hl => ?_)
      refine lv_aload_n hx hb d_LW_law_183 rfl (lv_at hl 4 rfl) ?_
      refine lv_aload_n hx hb d_LW_law_184 rfl (lv_at hl 2 rfl) ?_
      refine lv_iload hx hb d_LW_law_185 (lv_at hl 1 rfl) ?_
      refine lv_iconst (v := 1) hx hb d_LW_law_187 (by decide) ?_
      refine lv_iadd hx hb d_LW_law_188 ?_
      refine W.eq (g2 := F0 m 189 ls [.int (nI (3 * k + 1)), .ref b, .ref md]) (by rw [nI_1]) ?_
      refine lw_sld hx hb hX hbl hbA hS (by omega) (by omega) d_LW_law_189 ?_
      rw [en]
      refine lv_aload_n hx hb d_LW_law_190 rfl (lv_at hl 2 rfl) ?_
      refine lv_iload hx hb d_LW_law_191 (lv_at hl 1 rfl) ?_
      refine lv_iconst (v := 2) hx hb d_LW_law_193 (by decide) ?_
      refine lv_iadd hx hb d_LW_law_194 ?_
      refine W.eq (g2 := F0 m 195 ls [.int (nI (3 * k + 2)), .ref b, .int (nI n), .ref md]) (by rw [show (2 : Int32) = nI 2 from rfl, nI_add]) ?_
      refine lw_sld hx hb hX hbl hbA hS (by omega) (by omega) d_LW_law_195 ?_
      refine fh_callV (C := R_MD) (y := y_MD_save) (bytes := b_MD_save) (maxL := 5) (ret := (some .int)) (index := 58) (As := [.int (nI n), .int (xs (3 * k + 2))]) (rest := []) ⟨hx, hb, hml, hown, hG⟩ (c_MD_save_q l E h md ad sc ar hM1 S t hR hI n hn hbad (xs (3 * k + 2))) (cwV 2 hG (gV gm837 gm838 gm839 gm8 gm840) rfl rfl rfl ⟨rfl, hdy_MD_save⟩ ⟨Nat.le_of_ble_eq_true rfl, Nat.le_of_ble_eq_true rfl⟩) C_MD.1 km_2 hK hZ hP hS hA rfl hl.1 rfl (Nat.le_of_ble_eq_true rfl) d_LW_law_196 ⟨Nat.le_trans (m := 60000) (by omega) lw_rc, Nat.le_trans (m := 2000000) (by omega) lw_rs⟩ (fun r h2 H locs hq9 hP hS => ?_)
      obtain ⟨rfl, sc2, ar2, hM2, hR2, c2, K2⟩ := hq9
      refine W.eq (g2 := F0 m 199 ls [.int 0]) rfl ?_
      have ed2 := hZ.edn hP
      have hA2 := hA1.keepM hM1 CC ed1 ed2 K2
      have hf9 := K2.outK CC hf0
      have km_13 : h2 md = some (.inr (7, [.int (sc2 0), .int (sc2 1), .int (sc2 2), .int (sc2 3), .int (sc2 4), .int (sc2 5), .int (sc2 6), .int (sc2 7), .int (sc2 8), .ref (ad 9), .int (sc2 10), .ref (ad 11), .ref (ad 12), .ref (ad 13), .int (sc2 14), .int (sc2 15), .ref (ad 16), .ref (ad 17), .ref (ad 18), .ref (ad 19), .ref (ad 20), .int (sc2 21), .ref (ad 22), .ref (ad 23), .int (sc2 24), .int (sc2 25), .int (sc2 26), .int (sc2 27), .int (sc2 28)])) := hM2.1
      refine lv_istore (lv' := [(6, .int 0), (5, .int 2), (4, .int (nI (3 * k))), (0, .ref b), (1, .ref bl), (2, .ref md), (3, .ref out)]) hx hb d_LW_law_199 hl (by decide) rfl (fun ls hl => ?_)
      refine lv_aload_n hx hb d_LW_law_201 rfl (lv_at hl 5 rfl) ?_
      refine fh_callV (C := R_MD) (y := y_MD_thrown) (bytes := b_MD_thrown) (maxL := 1) (ret := (some .int)) (index := 52) (As := []) (rest := []) ⟨hx, hb, hml, hown, hG⟩ (c_MD_thrown l E h2 md ad sc2 ar2 hM2) (cwV 0 hG (gV gm762 gm763 gm764 gm8 gm765) rfl rfl rfl ⟨rfl, hdy_MD_thrown⟩ ⟨Nat.le_of_ble_eq_true rfl, Nat.le_of_ble_eq_true rfl⟩) C_MD.1 km_13 hK hZ hP hS hA rfl hl.1 rfl (Nat.le_of_ble_eq_true rfl) d_LW_law_202 ⟨Nat.le_trans (m := 60000) (by omega) lw_rc, Nat.le_trans (m := 2000000) (by omega) lw_rs⟩ (fun r h1 H locs hq9 hP hS => ?_)
      obtain ⟨rfl, e9⟩ := hq9
      rw [e9] at hP
      refine W.eq (g2 := F0 m 205 ls [.int (sc2 0)]) rfl ?_
      refine W.eq (g2 := F0 m 205 ls [.int 2]) (by rw [c2]) ?_
      refine lv_iload hx hb d_LW_law_205 (lv_at hl 1 rfl) ?_
      refine lv_icmp_eq (tgt := 212) hx hb d_LW_law_207 (by decide) (fun c_14 => ?_) (fun c_14 => ?_)
      · skip
        refine lv_iload hx hb d_LW_law_212 (lv_at hl 1 rfl) ?_
        refine lv_if_ne (tgt := 229) hx hb d_LW_law_214 (by decide) (fun c_15 => ?_) (fun c_15 => ?_)
        · skip
          refine lv_goto (tgt := 694) hx hb d_LW_law_229 (by decide) ?_
          exact kk h2 (S) _ _ H locs _ _ ls ⟨hA2, hI, hNB, ⟨_, _, hM2, hR2⟩, _, hf9⟩ (by omega) (by omega) (by omega) (by omega) hP hS (lv_sub hl [2, 3, 4, 5, 6] rfl)
        · skip
          exact absurd c_15 (by decide)
      · skip
        exact absurd rfl c_14

set_option maxHeartbeats 800000 in
set_option maxRecDepth 100000 in
theorem law_c2 {p : Program} {l : Launch} {e : Env} {s : State} {m : MethodId} {args : Array Value} {below : List Frame} {meth : Method} {c : Code} {A : Nat → Prop} {E : fh_E} {b L : Nat} {xs : Nat → Int32} {Q : State → Prop} (C0 : LCt p l s m args c A E b L xs) {bl med md out k : Nat} {ad : Nat → Nat} (CC : CNt med md out ad) (hk3 : 3 * k + 3 ≤ L) (hL : L ≤ 1536) {h : fh_H} {S : mS} {t N : Nat} (HS : LSt E h bl med md out ad S t N) (ht : t ≤ 1640 * k) (hN : N ≤ 11 * k) {H : Heap} {locs : List Loc} {cells slots : Nat} (hc : cells ≤ 30 + 90 * k) (hs : slots ≤ 900 + 3362 * k) {ls : Array Slot} (hP : fh_P E.1 vwCl A h H) (hS : va_S A s.heap H locs) (hl : lv_has ls 7 [(4, .int (nI (3 * k))), (0, .ref b), (1, .ref bl), (2, .ref md), (3, .ref out)])
    (kk : ∀ (h2 : fh_H) (S2 : mS) (t2 N2 : Nat) (H2 : Heap) (locs2 : List Loc) (c2 s2 : Nat) (ls2 : Array Slot), LSt E h2 bl med md out ad S2 t2 N2 → t2 ≤ 1640 * (k + 1) → N2 ≤ 11 * (k + 1) → c2 ≤ 30 + 90 * (k + 1) → s2 ≤ 900 + 3362 * (k + 1) → fh_P E.1 vwCl A h2 H2 → va_S A s.heap H2 locs2 → lv_has ls2 7 [(4, .int (nI (3 * k))), (0, .ref b), (1, .ref bl), (2, .ref md), (3, .ref out)] → W p l e room_1 s m args below meth c H2 locs2 c2 s2 Q (F0 m 694 ls2 [])) : W p l e room_1 s m args below meth c H locs cells slots Q (F0 m 232 ls []) := by
  obtain ⟨hx, hb, hml, hown, hG, hK, hZ, hA, hfl, hX, hbl, hbA⟩ := C0
  obtain ⟨hS0, hI, hNB, ⟨sc, ar, hM, hR⟩, f0, hf0⟩ := HS
  have ed0 := hZ.edn hP
  obtain ⟨dk_x_1, rq_x_1, sv_x_1, hB_x_1⟩ := hS0
  obtain ⟨bcs_x_1, qu_x_1, cs_x_1, kb0, -⟩ := hB_x_1.cells
  have hS0 : ALy E h bl med S := ⟨dk_x_1, rq_x_1, sv_x_1, hB_x_1⟩
  have km_2 : h md = some (.inr (7, [.int (sc 0), .int (sc 1), .int (sc 2), .int (sc 3), .int (sc 4), .int (sc 5), .int (sc 6), .int (sc 7), .int (sc 8), .ref (ad 9), .int (sc 10), .ref (ad 11), .ref (ad 12), .ref (ad 13), .int (sc 14), .int (sc 15), .ref (ad 16), .ref (ad 17), .ref (ad 18), .ref (ad 19), .ref (ad 20), .int (sc 21), .ref (ad 22), .ref (ad 23), .int (sc 24), .int (sc 25), .int (sc 26), .int (sc 27), .int (sc 28)])) := hM.1
  by_cases hroom : S.q.length + S.bs.length + 1 ≤ 40
  · skip
    refine lv_aload_n hx hb d_LW_law_232 rfl (lv_at hl 2 rfl) ?_
    refine lv_aload_n hx hb d_LW_law_233 rfl (lv_at hl 4 rfl) ?_
    refine lw_callS (y := y_LW_sync) (bytes := b_LW_sync) (maxL := 3) (ret := (some .int)) (hh := [(0, 8, 11, 15)]) (index := 59) (As := [.ref bl, .ref out]) (rest := []) ⟨hx, hb, hml, hown, hG⟩ (c_LW_sync l E h bl med S t hS0 hI out f0 hf0 CC.2.1 hroom) rfl rfl rfl (Nat.le_of_ble_eq_true rfl) (Nat.le_of_ble_eq_true rfl) (pay_in hG (gBW gm601)) (hG _ gm0) (hG _ gm599) (hG _ gm600) hdy_LW_sync hK hZ hP hS hA rfl hl.1 rfl (Nat.le_of_ble_eq_true rfl) d_LW_law_234 ⟨Nat.le_trans (m := 60000) (by omega) lw_rc, Nat.le_trans (m := 2000000) (by omega) lw_rs⟩ (fun r h1 H locs hq9 hP hS => ?_)
    obtain ⟨rfl, ⟨f2, hf2, ef2⟩, hA1, hk1⟩ := hq9
    refine W.eq (g2 := F0 m 237 ls [.int 0]) rfl ?_
    have ed1 := hZ.edn hP
    have hM1 := hM.keepB CC hk1
    obtain ⟨dk_x_4, rq_x_4, sv_x_4, hB_x_4⟩ := hA1
    obtain ⟨bcs_x_4, qu_x_4, cs_x_4, kb_3, -⟩ := hB_x_4.cells
    have hA1 : ALy E h1 bl med (addM (syM 10 0 S).1 2 (-1) 0) := ⟨dk_x_4, rq_x_4, sv_x_4, hB_x_4⟩
    have km_5 : h1 md = some (.inr (7, [.int (sc 0), .int (sc 1), .int (sc 2), .int (sc 3), .int (sc 4), .int (sc 5), .int (sc 6), .int (sc 7), .int (sc 8), .ref (ad 9), .int (sc 10), .ref (ad 11), .ref (ad 12), .ref (ad 13), .int (sc 14), .int (sc 15), .ref (ad 16), .ref (ad 17), .ref (ad 18), .ref (ad 19), .ref (ad 20), .int (sc 21), .ref (ad 22), .ref (ad 23), .int (sc 24), .int (sc 25), .int (sc 26), .int (sc 27), .int (sc 28)])) := hM1.1
    refine lv_istore (lv' := [(5, .int 0), (4, .int (nI (3 * k))), (0, .ref b), (1, .ref bl), (2, .ref md), (3, .ref out)]) hx hb d_LW_law_237 hl (by decide) rfl (fun ls hl => ?_)
    refine lv_aload_n hx hb d_LW_law_239 rfl (lv_at hl 4 rfl) ?_
    refine fh_callV (C := R_MD) (y := y_MD_sync) (bytes := b_MD_sync) (maxL := 4) (ret := (some .int)) (index := 62) (As := []) (rest := []) ⟨hx, hb, hml, hown, hG⟩ (c_MD_sync l E h1 md ad sc ar hM1 S t hR hI N hNB (by omega) hroom) (cwV 0 hG (gV gm841 gm842 gm843 gm8 gm844) rfl rfl rfl ⟨rfl, hdy_MD_sync⟩ ⟨Nat.le_of_ble_eq_true rfl, Nat.le_of_ble_eq_true rfl⟩) C_MD.1 km_5 hK hZ hP hS hA rfl hl.1 rfl (Nat.le_of_ble_eq_true rfl) d_LW_law_240 ⟨Nat.le_trans (m := 60000) (by omega) lw_rc, Nat.le_trans (m := 2000000) (by omega) lw_rs⟩ (fun r h2 H locs hq9 hP hS => ?_)
    obtain ⟨rfl, sc2, ar2, hM2, hR2, c2, K2⟩ := hq9
    refine W.eq (g2 := F0 m 243 ls [.int (nI (syM 10 0 S).2)]) rfl ?_
    have ed2 := hZ.edn hP
    have hA2 := hA1.keepM hM1 CC ed1 ed2 K2
    have hf9 := K2.outK CC hf2
    have km_6 : h2 md = some (.inr (7, [.int (sc2 0), .int (sc2 1), .int (sc2 2), .int (sc2 3), .int (sc2 4), .int (sc2 5), .int (sc2 6), .int (sc2 7), .int (sc2 8), .ref (ad 9), .int (sc2 10), .ref (ad 11), .ref (ad 12), .ref (ad 13), .int (sc2 14), .int (sc2 15), .ref (ad 16), .ref (ad 17), .ref (ad 18), .ref (ad 19), .ref (ad 20), .int (sc2 21), .ref (ad 22), .ref (ad 23), .int (sc2 24), .int (sc2 25), .int (sc2 26), .int (sc2 27), .int (sc2 28)])) := hM2.1
    refine lv_istore (lv' := [(6, .int (nI (syM 10 0 S).2)), (5, .int 0), (4, .int (nI (3 * k))), (0, .ref b), (1, .ref bl), (2, .ref md), (3, .ref out)]) hx hb d_LW_law_243 hl (by decide) rfl (fun ls hl => ?_)
    refine lv_aload_n hx hb d_LW_law_245 rfl (lv_at hl 5 rfl) ?_
    refine fh_callV (C := R_MD) (y := y_MD_thrown) (bytes := b_MD_thrown) (maxL := 1) (ret := (some .int)) (index := 52) (As := []) (rest := []) ⟨hx, hb, hml, hown, hG⟩ (c_MD_thrown l E h2 md ad sc2 ar2 hM2) (cwV 0 hG (gV gm762 gm763 gm764 gm8 gm765) rfl rfl rfl ⟨rfl, hdy_MD_thrown⟩ ⟨Nat.le_of_ble_eq_true rfl, Nat.le_of_ble_eq_true rfl⟩) C_MD.1 km_6 hK hZ hP hS hA rfl hl.1 rfl (Nat.le_of_ble_eq_true rfl) d_LW_law_246 ⟨Nat.le_trans (m := 60000) (by omega) lw_rc, Nat.le_trans (m := 2000000) (by omega) lw_rs⟩ (fun r h1 H locs hq9 hP hS => ?_)
    obtain ⟨rfl, e9⟩ := hq9
    rw [e9] at hP
    refine W.eq (g2 := F0 m 249 ls [.int (sc2 0)]) rfl ?_
    refine W.eq (g2 := F0 m 249 ls [.int 0]) (by rw [c2]) ?_
    refine lv_iload hx hb d_LW_law_249 (lv_at hl 1 rfl) ?_
    refine lv_icmp_eq (tgt := 256) hx hb d_LW_law_251 (by decide) (fun c_7 => ?_) (fun c_7 => ?_)
    · skip
      refine lv_iload hx hb d_LW_law_256 (lv_at hl 1 rfl) ?_
      refine lv_if_ne (tgt := 273) hx hb d_LW_law_258 (by decide) (fun c_8 => ?_) (fun c_8 => ?_)
      · skip
        exact absurd rfl c_8
      · skip
        refine lv_aload_n hx hb d_LW_law_261 rfl (lv_at hl 6 rfl) ?_
        refine lv_iconst (v := 0) hx hb d_LW_law_262 (by decide) ?_
        refine fh_lald hx hb hK hP 1 hf9 rfl (vp_in_nI (n := 0) (N := 1) (by decide) (by decide)) d_LW_law_263 ?_
        refine lv_iload hx hb d_LW_law_264 (lv_at hl 0 rfl) ?_
        refine lv_i2l hx hb d_LW_law_266 rfl ?_
        refine lw_lcmp hx hb (by rw [show (0 : Int32).toNatClampNeg = 0 by decide]; exact ef2) d_LW_law_267 ?_
        refine lv_if_eq (tgt := 273) hx hb d_LW_law_268 (by decide) (fun c_9 => ?_) (fun c_9 => ?_)
        · skip
          obtain ⟨hI9, N2, hN8, hN9⟩ := hI.sync hNB hroom
          refine lv_goto (tgt := 694) hx hb d_LW_law_273 (by decide) ?_
          exact kk h2 (addM (syM 10 0 S).1 2 (-1) 0) _ _ H locs _ _ ls ⟨hA2, hI9, hN9, ⟨_, _, hM2, hR2⟩, _, hf9⟩ (by omega) (by omega) (by omega) (by omega) hP hS (lv_sub hl [2, 3, 4, 5, 6] rfl)
        · skip
          exact absurd rfl c_9
    · skip
      exact absurd rfl c_7
  · have hbad : 40 < S.q.length + S.bs.length + 1 := by omega
    refine lv_aload_n hx hb d_LW_law_232 rfl (lv_at hl 2 rfl) ?_
    refine lv_aload_n hx hb d_LW_law_233 rfl (lv_at hl 4 rfl) ?_
    refine lw_callS (y := y_LW_sync) (bytes := b_LW_sync) (maxL := 3) (ret := (some .int)) (hh := [(0, 8, 11, 15)]) (index := 59) (As := [.ref bl, .ref out]) (rest := []) ⟨hx, hb, hml, hown, hG⟩ (c_LW_sync_q l E h bl med S t hS0 hI out hfl hbad) rfl rfl rfl (Nat.le_of_ble_eq_true rfl) (Nat.le_of_ble_eq_true rfl) (pay_in hG (gBW gm601)) (hG _ gm0) (hG _ gm599) (hG _ gm600) hdy_LW_sync hK hZ hP hS hA rfl hl.1 rfl (Nat.le_of_ble_eq_true rfl) d_LW_law_234 ⟨Nat.le_trans (m := 60000) (by omega) lw_rc, Nat.le_trans (m := 2000000) (by omega) lw_rs⟩ (fun r h1 H locs hq9 hP hS => ?_)
    obtain ⟨rfl, e9⟩ := hq9
    rw [e9] at hP
    refine W.eq (g2 := F0 m 237 ls [.int 1]) rfl ?_
    have ed1 := hZ.edn hP
    have hM1 := hM
    have hA1 := hS0
    refine lv_istore (lv' := [(5, .int 1), (4, .int (nI (3 * k))), (0, .ref b), (1, .ref bl), (2, .ref md), (3, .ref out)]) hx hb d_LW_law_237 hl (by decide) rfl (fun ls hl => ?_)
    refine lv_aload_n hx hb d_LW_law_239 rfl (lv_at hl 4 rfl) ?_
    refine fh_callV (C := R_MD) (y := y_MD_sync) (bytes := b_MD_sync) (maxL := 4) (ret := (some .int)) (index := 62) (As := []) (rest := []) ⟨hx, hb, hml, hown, hG⟩ (c_MD_sync_q l E h md ad sc ar hM1 S t hR hI hbad) (cwV 0 hG (gV gm841 gm842 gm843 gm8 gm844) rfl rfl rfl ⟨rfl, hdy_MD_sync⟩ ⟨Nat.le_of_ble_eq_true rfl, Nat.le_of_ble_eq_true rfl⟩) C_MD.1 km_2 hK hZ hP hS hA rfl hl.1 rfl (Nat.le_of_ble_eq_true rfl) d_LW_law_240 ⟨Nat.le_trans (m := 60000) (by omega) lw_rc, Nat.le_trans (m := 2000000) (by omega) lw_rs⟩ (fun r h2 H locs hq9 hP hS => ?_)
    obtain ⟨rfl, sc2, ar2, hM2, hR2, c2, K2⟩ := hq9
    refine W.eq (g2 := F0 m 243 ls [.int 0]) rfl ?_
    have ed2 := hZ.edn hP
    have hA2 := hA1.keepM hM1 CC ed1 ed2 K2
    have hf9 := K2.outK CC hf0
    have km_10 : h2 md = some (.inr (7, [.int (sc2 0), .int (sc2 1), .int (sc2 2), .int (sc2 3), .int (sc2 4), .int (sc2 5), .int (sc2 6), .int (sc2 7), .int (sc2 8), .ref (ad 9), .int (sc2 10), .ref (ad 11), .ref (ad 12), .ref (ad 13), .int (sc2 14), .int (sc2 15), .ref (ad 16), .ref (ad 17), .ref (ad 18), .ref (ad 19), .ref (ad 20), .int (sc2 21), .ref (ad 22), .ref (ad 23), .int (sc2 24), .int (sc2 25), .int (sc2 26), .int (sc2 27), .int (sc2 28)])) := hM2.1
    refine lv_istore (lv' := [(6, .int 0), (5, .int 1), (4, .int (nI (3 * k))), (0, .ref b), (1, .ref bl), (2, .ref md), (3, .ref out)]) hx hb d_LW_law_243 hl (by decide) rfl (fun ls hl => ?_)
    refine lv_aload_n hx hb d_LW_law_245 rfl (lv_at hl 5 rfl) ?_
    refine fh_callV (C := R_MD) (y := y_MD_thrown) (bytes := b_MD_thrown) (maxL := 1) (ret := (some .int)) (index := 52) (As := []) (rest := []) ⟨hx, hb, hml, hown, hG⟩ (c_MD_thrown l E h2 md ad sc2 ar2 hM2) (cwV 0 hG (gV gm762 gm763 gm764 gm8 gm765) rfl rfl rfl ⟨rfl, hdy_MD_thrown⟩ ⟨Nat.le_of_ble_eq_true rfl, Nat.le_of_ble_eq_true rfl⟩) C_MD.1 km_10 hK hZ hP hS hA rfl hl.1 rfl (Nat.le_of_ble_eq_true rfl) d_LW_law_246 ⟨Nat.le_trans (m := 60000) (by omega) lw_rc, Nat.le_trans (m := 2000000) (by omega) lw_rs⟩ (fun r h1 H locs hq9 hP hS => ?_)
    obtain ⟨rfl, e9⟩ := hq9
    rw [e9] at hP
    refine W.eq (g2 := F0 m 249 ls [.int (sc2 0)]) rfl ?_
    refine W.eq (g2 := F0 m 249 ls [.int 1]) (by rw [c2]) ?_
    refine lv_iload hx hb d_LW_law_249 (lv_at hl 1 rfl) ?_
    refine lv_icmp_eq (tgt := 256) hx hb d_LW_law_251 (by decide) (fun c_11 => ?_) (fun c_11 => ?_)
    · skip
      refine lv_iload hx hb d_LW_law_256 (lv_at hl 1 rfl) ?_
      refine lv_if_ne (tgt := 273) hx hb d_LW_law_258 (by decide) (fun c_12 => ?_) (fun c_12 => ?_)
      · skip
        refine lv_goto (tgt := 694) hx hb d_LW_law_273 (by decide) ?_
        exact kk h2 (S) _ _ H locs _ _ ls ⟨hA2, hI, hNB, ⟨_, _, hM2, hR2⟩, _, hf9⟩ (by omega) (by omega) (by omega) (by omega) hP hS (lv_sub hl [2, 3, 4, 5, 6] rfl)
      · skip
        exact absurd c_12 (by decide)
    · skip
      exact absurd rfl c_11

set_option maxHeartbeats 800000 in
set_option maxRecDepth 100000 in
theorem law_c3 {p : Program} {l : Launch} {e : Env} {s : State} {m : MethodId} {args : Array Value} {below : List Frame} {meth : Method} {c : Code} {A : Nat → Prop} {E : fh_E} {b L : Nat} {xs : Nat → Int32} {Q : State → Prop} (C0 : LCt p l s m args c A E b L xs) {bl med md out k : Nat} {ad : Nat → Nat} (CC : CNt med md out ad) (hk3 : 3 * k + 3 ≤ L) (hL : L ≤ 1536) {h : fh_H} {S : mS} {t N : Nat} (HS : LSt E h bl med md out ad S t N) (ht : t ≤ 1640 * k) (hN : N ≤ 11 * k) {H : Heap} {locs : List Loc} {cells slots : Nat} (hc : cells ≤ 30 + 90 * k) (hs : slots ≤ 900 + 3362 * k) {ls : Array Slot} (hP : fh_P E.1 vwCl A h H) (hS : va_S A s.heap H locs) (hl : lv_has ls 7 [(4, .int (nI (3 * k))), (0, .ref b), (1, .ref bl), (2, .ref md), (3, .ref out)])
    (kk : ∀ (h2 : fh_H) (S2 : mS) (t2 N2 : Nat) (H2 : Heap) (locs2 : List Loc) (c2 s2 : Nat) (ls2 : Array Slot), LSt E h2 bl med md out ad S2 t2 N2 → t2 ≤ 1640 * (k + 1) → N2 ≤ 11 * (k + 1) → c2 ≤ 30 + 90 * (k + 1) → s2 ≤ 900 + 3362 * (k + 1) → fh_P E.1 vwCl A h2 H2 → va_S A s.heap H2 locs2 → lv_has ls2 7 [(4, .int (nI (3 * k))), (0, .ref b), (1, .ref bl), (2, .ref md), (3, .ref out)] → W p l e room_1 s m args below meth c H2 locs2 c2 s2 Q (F0 m 694 ls2 [])) : W p l e room_1 s m args below meth c H locs cells slots Q (F0 m 276 ls []) := by
  obtain ⟨hx, hb, hml, hown, hG, hK, hZ, hA, hfl, hX, hbl, hbA⟩ := C0
  obtain ⟨hS0, hI, hNB, ⟨sc, ar, hM, hR⟩, f0, hf0⟩ := HS
  have ed0 := hZ.edn hP
  obtain ⟨dk_x_1, rq_x_1, sv_x_1, hB_x_1⟩ := hS0
  obtain ⟨bcs_x_1, qu_x_1, cs_x_1, kb0, -⟩ := hB_x_1.cells
  have hS0 : ALy E h bl med S := ⟨dk_x_1, rq_x_1, sv_x_1, hB_x_1⟩
  have km_2 : h md = some (.inr (7, [.int (sc 0), .int (sc 1), .int (sc 2), .int (sc 3), .int (sc 4), .int (sc 5), .int (sc 6), .int (sc 7), .int (sc 8), .ref (ad 9), .int (sc 10), .ref (ad 11), .ref (ad 12), .ref (ad 13), .int (sc 14), .int (sc 15), .ref (ad 16), .ref (ad 17), .ref (ad 18), .ref (ad 19), .ref (ad 20), .int (sc 21), .ref (ad 22), .ref (ad 23), .int (sc 24), .int (sc 25), .int (sc 26), .int (sc 27), .int (sc 28)])) := hM.1
  rcases stp_or (xs (3 * k + 1)) with hbad | ⟨n, hn1, hn2, en⟩
  · skip
    refine lv_aload_n hx hb d_LW_law_276 rfl (lv_at hl 2 rfl) ?_
    refine lv_aload_n hx hb d_LW_law_277 rfl (lv_at hl 1 rfl) ?_
    refine lv_iload hx hb d_LW_law_278 (lv_at hl 0 rfl) ?_
    refine lv_iconst (v := 1) hx hb d_LW_law_280 (by decide) ?_
    refine lv_iadd hx hb d_LW_law_281 ?_
    refine W.eq (g2 := F0 m 282 ls [.int (nI (3 * k + 1)), .ref b, .ref bl]) (by rw [nI_1]) ?_
    refine lw_sld hx hb hX hbl hbA hS (by omega) (by omega) d_LW_law_282 ?_
    refine lv_aload_n hx hb d_LW_law_283 rfl (lv_at hl 4 rfl) ?_
    refine lw_callS (y := y_LW_step) (bytes := b_LW_step) (maxL := 4) (ret := (some .int)) (hh := [(0, 9, 12, 28)]) (index := 63) (As := [.ref bl, .int (xs (3 * k + 1)), .ref out]) (rest := []) ⟨hx, hb, hml, hown, hG⟩ (c_LW_step_b l E h bl med S t hS0 hI out hfl (xs (3 * k + 1)) hbad) rfl rfl rfl (Nat.le_of_ble_eq_true rfl) (Nat.le_of_ble_eq_true rfl) (pay_in hG (gBW gm612)) (hG _ gm0) (hG _ gm610) (hG _ gm611) hdy_LW_step hK hZ hP hS hA rfl hl.1 rfl (Nat.le_of_ble_eq_true rfl) d_LW_law_284 ⟨Nat.le_trans (m := 60000) (by omega) lw_rc, Nat.le_trans (m := 2000000) (by omega) lw_rs⟩ (fun r h1 H locs hq9 hP hS => ?_)
    obtain ⟨rfl, e9⟩ := hq9
    rw [e9] at hP
    refine W.eq (g2 := F0 m 287 ls [.int 1]) rfl ?_
    have ed1 := hZ.edn hP
    have hM1 := hM
    have hA1 := hS0
    refine lv_istore (lv' := [(5, .int 1), (4, .int (nI (3 * k))), (0, .ref b), (1, .ref bl), (2, .ref md), (3, .ref out)]) hx hb d_LW_law_287 hl (by decide) rfl (fun ls hl => ?_)
    refine lv_aload_n hx hb d_LW_law_289 rfl (lv_at hl 4 rfl) ?_
    refine lv_aload_n hx hb d_LW_law_290 rfl (lv_at hl 2 rfl) ?_
    refine lv_iload hx hb d_LW_law_291 (lv_at hl 1 rfl) ?_
    refine lv_iconst (v := 1) hx hb d_LW_law_293 (by decide) ?_
    refine lv_iadd hx hb d_LW_law_294 ?_
    refine W.eq (g2 := F0 m 295 ls [.int (nI (3 * k + 1)), .ref b, .ref md]) (by rw [nI_1]) ?_
    refine lw_sld hx hb hX hbl hbA hS (by omega) (by omega) d_LW_law_295 ?_
    refine fh_callV (C := R_MD) (y := y_MD_step) (bytes := b_MD_step) (maxL := 3) (ret := (some .int)) (index := 65) (As := [.int (xs (3 * k + 1))]) (rest := []) ⟨hx, hb, hml, hown, hG⟩ (c_MD_step_b l E h md ad sc ar hM1 S t hR hI (xs (3 * k + 1)) hbad) (cwV 1 hG (gV gm845 gm846 gm847 gm8 gm848) rfl rfl rfl ⟨rfl, hdy_MD_step⟩ ⟨Nat.le_of_ble_eq_true rfl, Nat.le_of_ble_eq_true rfl⟩) C_MD.1 km_2 hK hZ hP hS hA rfl hl.1 rfl (Nat.le_of_ble_eq_true rfl) d_LW_law_296 ⟨Nat.le_trans (m := 60000) (by omega) lw_rc, Nat.le_trans (m := 2000000) (by omega) lw_rs⟩ (fun r h2 H locs hq9 hP hS => ?_)
    obtain ⟨rfl, sc2, ar2, hM2, hR2, c2, K2⟩ := hq9
    refine W.eq (g2 := F0 m 299 ls [.int 0]) rfl ?_
    have ed2 := hZ.edn hP
    have hA2 := hA1.keepM hM1 CC ed1 ed2 K2
    have hf9 := K2.outK CC hf0
    have km_3 : h2 md = some (.inr (7, [.int (sc2 0), .int (sc2 1), .int (sc2 2), .int (sc2 3), .int (sc2 4), .int (sc2 5), .int (sc2 6), .int (sc2 7), .int (sc2 8), .ref (ad 9), .int (sc2 10), .ref (ad 11), .ref (ad 12), .ref (ad 13), .int (sc2 14), .int (sc2 15), .ref (ad 16), .ref (ad 17), .ref (ad 18), .ref (ad 19), .ref (ad 20), .int (sc2 21), .ref (ad 22), .ref (ad 23), .int (sc2 24), .int (sc2 25), .int (sc2 26), .int (sc2 27), .int (sc2 28)])) := hM2.1
    refine lv_istore (lv' := [(6, .int 0), (5, .int 1), (4, .int (nI (3 * k))), (0, .ref b), (1, .ref bl), (2, .ref md), (3, .ref out)]) hx hb d_LW_law_299 hl (by decide) rfl (fun ls hl => ?_)
    refine lv_aload_n hx hb d_LW_law_301 rfl (lv_at hl 5 rfl) ?_
    refine fh_callV (C := R_MD) (y := y_MD_thrown) (bytes := b_MD_thrown) (maxL := 1) (ret := (some .int)) (index := 52) (As := []) (rest := []) ⟨hx, hb, hml, hown, hG⟩ (c_MD_thrown l E h2 md ad sc2 ar2 hM2) (cwV 0 hG (gV gm762 gm763 gm764 gm8 gm765) rfl rfl rfl ⟨rfl, hdy_MD_thrown⟩ ⟨Nat.le_of_ble_eq_true rfl, Nat.le_of_ble_eq_true rfl⟩) C_MD.1 km_3 hK hZ hP hS hA rfl hl.1 rfl (Nat.le_of_ble_eq_true rfl) d_LW_law_302 ⟨Nat.le_trans (m := 60000) (by omega) lw_rc, Nat.le_trans (m := 2000000) (by omega) lw_rs⟩ (fun r h1 H locs hq9 hP hS => ?_)
    obtain ⟨rfl, e9⟩ := hq9
    rw [e9] at hP
    refine W.eq (g2 := F0 m 305 ls [.int (sc2 0)]) rfl ?_
    refine W.eq (g2 := F0 m 305 ls [.int 1]) (by rw [c2]) ?_
    refine lv_iload hx hb d_LW_law_305 (lv_at hl 1 rfl) ?_
    refine lv_icmp_eq (tgt := 312) hx hb d_LW_law_307 (by decide) (fun c_4 => ?_) (fun c_4 => ?_)
    · skip
      refine lv_iload hx hb d_LW_law_312 (lv_at hl 1 rfl) ?_
      refine lv_if_ne (tgt := 329) hx hb d_LW_law_314 (by decide) (fun c_5 => ?_) (fun c_5 => ?_)
      · skip
        refine lv_goto (tgt := 694) hx hb d_LW_law_329 (by decide) ?_
        exact kk h2 (S) _ _ H locs _ _ ls ⟨hA2, hI, hNB, ⟨_, _, hM2, hR2⟩, _, hf9⟩ (by omega) (by omega) (by omega) (by omega) hP hS (lv_sub hl [2, 3, 4, 5, 6] rfl)
      · skip
        exact absurd c_5 (by decide)
    · skip
      exact absurd rfl c_4
  · skip
    refine lv_aload_n hx hb d_LW_law_276 rfl (lv_at hl 2 rfl) ?_
    refine lv_aload_n hx hb d_LW_law_277 rfl (lv_at hl 1 rfl) ?_
    refine lv_iload hx hb d_LW_law_278 (lv_at hl 0 rfl) ?_
    refine lv_iconst (v := 1) hx hb d_LW_law_280 (by decide) ?_
    refine lv_iadd hx hb d_LW_law_281 ?_
    refine W.eq (g2 := F0 m 282 ls [.int (nI (3 * k + 1)), .ref b, .ref bl]) (by rw [nI_1]) ?_
    refine lw_sld hx hb hX hbl hbA hS (by omega) (by omega) d_LW_law_282 ?_
    rw [en]
    refine lv_aload_n hx hb d_LW_law_283 rfl (lv_at hl 4 rfl) ?_
    refine lw_callS (y := y_LW_step) (bytes := b_LW_step) (maxL := 4) (ret := (some .int)) (hh := [(0, 9, 12, 28)]) (index := 63) (As := [.ref bl, .int (nI n), .ref out]) (rest := []) ⟨hx, hb, hml, hown, hG⟩ (c_LW_step l E h bl med S t hS0 hI out f0 hf0 CC.2.1 n hn1 hn2) rfl rfl rfl (Nat.le_of_ble_eq_true rfl) (Nat.le_of_ble_eq_true rfl) (pay_in hG (gBW gm612)) (hG _ gm0) (hG _ gm610) (hG _ gm611) hdy_LW_step hK hZ hP hS hA rfl hl.1 rfl (Nat.le_of_ble_eq_true rfl) d_LW_law_284 ⟨Nat.le_trans (m := 60000) (by omega) lw_rc, Nat.le_trans (m := 2000000) (by omega) lw_rs⟩ (fun r h1 H locs hq9 hP hS => ?_)
    obtain ⟨rfl, ⟨f2, hf2, ef2⟩, hA1, hk1⟩ := hq9
    refine W.eq (g2 := F0 m 287 ls [.int 0]) rfl ?_
    have ed1 := hZ.edn hP
    have hM1 := hM.keepB CC hk1
    obtain ⟨dk_x_7, rq_x_7, sv_x_7, hB_x_7⟩ := hA1
    obtain ⟨bcs_x_7, qu_x_7, cs_x_7, kb_6, -⟩ := hB_x_7.cells
    have hA1 : ALy E h1 bl med (paM 43 n S) := ⟨dk_x_7, rq_x_7, sv_x_7, hB_x_7⟩
    have km_8 : h1 md = some (.inr (7, [.int (sc 0), .int (sc 1), .int (sc 2), .int (sc 3), .int (sc 4), .int (sc 5), .int (sc 6), .int (sc 7), .int (sc 8), .ref (ad 9), .int (sc 10), .ref (ad 11), .ref (ad 12), .ref (ad 13), .int (sc 14), .int (sc 15), .ref (ad 16), .ref (ad 17), .ref (ad 18), .ref (ad 19), .ref (ad 20), .int (sc 21), .ref (ad 22), .ref (ad 23), .int (sc 24), .int (sc 25), .int (sc 26), .int (sc 27), .int (sc 28)])) := hM1.1
    refine lv_istore (lv' := [(5, .int 0), (4, .int (nI (3 * k))), (0, .ref b), (1, .ref bl), (2, .ref md), (3, .ref out)]) hx hb d_LW_law_287 hl (by decide) rfl (fun ls hl => ?_)
    refine lv_aload_n hx hb d_LW_law_289 rfl (lv_at hl 4 rfl) ?_
    refine lv_aload_n hx hb d_LW_law_290 rfl (lv_at hl 2 rfl) ?_
    refine lv_iload hx hb d_LW_law_291 (lv_at hl 1 rfl) ?_
    refine lv_iconst (v := 1) hx hb d_LW_law_293 (by decide) ?_
    refine lv_iadd hx hb d_LW_law_294 ?_
    refine W.eq (g2 := F0 m 295 ls [.int (nI (3 * k + 1)), .ref b, .ref md]) (by rw [nI_1]) ?_
    refine lw_sld hx hb hX hbl hbA hS (by omega) (by omega) d_LW_law_295 ?_
    rw [en]
    refine fh_callV (C := R_MD) (y := y_MD_step) (bytes := b_MD_step) (maxL := 3) (ret := (some .int)) (index := 65) (As := [.int (nI n)]) (rest := []) ⟨hx, hb, hml, hown, hG⟩ (c_MD_step l E h1 md ad sc ar hM1 S t hR hI n hn1 hn2 (by omega)) (cwV 1 hG (gV gm845 gm846 gm847 gm8 gm848) rfl rfl rfl ⟨rfl, hdy_MD_step⟩ ⟨Nat.le_of_ble_eq_true rfl, Nat.le_of_ble_eq_true rfl⟩) C_MD.1 km_8 hK hZ hP hS hA rfl hl.1 rfl (Nat.le_of_ble_eq_true rfl) d_LW_law_296 ⟨Nat.le_trans (m := 60000) (by omega) lw_rc, Nat.le_trans (m := 2000000) (by omega) lw_rs⟩ (fun r h2 H locs hq9 hP hS => ?_)
    obtain ⟨rfl, sc2, ar2, hM2, hR2, c2, K2⟩ := hq9
    refine W.eq (g2 := F0 m 299 ls [.int ((paM 43 n S).tm)]) rfl ?_
    have ed2 := hZ.edn hP
    have hA2 := hA1.keepM hM1 CC ed1 ed2 K2
    have hf9 := K2.outK CC hf2
    have km_9 : h2 md = some (.inr (7, [.int (sc2 0), .int (sc2 1), .int (sc2 2), .int (sc2 3), .int (sc2 4), .int (sc2 5), .int (sc2 6), .int (sc2 7), .int (sc2 8), .ref (ad 9), .int (sc2 10), .ref (ad 11), .ref (ad 12), .ref (ad 13), .int (sc2 14), .int (sc2 15), .ref (ad 16), .ref (ad 17), .ref (ad 18), .ref (ad 19), .ref (ad 20), .int (sc2 21), .ref (ad 22), .ref (ad 23), .int (sc2 24), .int (sc2 25), .int (sc2 26), .int (sc2 27), .int (sc2 28)])) := hM2.1
    refine lv_istore (lv' := [(6, .int ((paM 43 n S).tm)), (5, .int 0), (4, .int (nI (3 * k))), (0, .ref b), (1, .ref bl), (2, .ref md), (3, .ref out)]) hx hb d_LW_law_299 hl (by decide) rfl (fun ls hl => ?_)
    refine lv_aload_n hx hb d_LW_law_301 rfl (lv_at hl 5 rfl) ?_
    refine fh_callV (C := R_MD) (y := y_MD_thrown) (bytes := b_MD_thrown) (maxL := 1) (ret := (some .int)) (index := 52) (As := []) (rest := []) ⟨hx, hb, hml, hown, hG⟩ (c_MD_thrown l E h2 md ad sc2 ar2 hM2) (cwV 0 hG (gV gm762 gm763 gm764 gm8 gm765) rfl rfl rfl ⟨rfl, hdy_MD_thrown⟩ ⟨Nat.le_of_ble_eq_true rfl, Nat.le_of_ble_eq_true rfl⟩) C_MD.1 km_9 hK hZ hP hS hA rfl hl.1 rfl (Nat.le_of_ble_eq_true rfl) d_LW_law_302 ⟨Nat.le_trans (m := 60000) (by omega) lw_rc, Nat.le_trans (m := 2000000) (by omega) lw_rs⟩ (fun r h1 H locs hq9 hP hS => ?_)
    obtain ⟨rfl, e9⟩ := hq9
    rw [e9] at hP
    refine W.eq (g2 := F0 m 305 ls [.int (sc2 0)]) rfl ?_
    refine W.eq (g2 := F0 m 305 ls [.int 0]) (by rw [c2]) ?_
    refine lv_iload hx hb d_LW_law_305 (lv_at hl 1 rfl) ?_
    refine lv_icmp_eq (tgt := 312) hx hb d_LW_law_307 (by decide) (fun c_10 => ?_) (fun c_10 => ?_)
    · skip
      refine lv_iload hx hb d_LW_law_312 (lv_at hl 1 rfl) ?_
      refine lv_if_ne (tgt := 329) hx hb d_LW_law_314 (by decide) (fun c_11 => ?_) (fun c_11 => ?_)
      · skip
        exact absurd rfl c_11
      · skip
        refine lv_aload_n hx hb d_LW_law_317 rfl (lv_at hl 6 rfl) ?_
        refine lv_iconst (v := 0) hx hb d_LW_law_318 (by decide) ?_
        refine fh_lald hx hb hK hP 1 hf9 rfl (vp_in_nI (n := 0) (N := 1) (by decide) (by decide)) d_LW_law_319 ?_
        refine lv_iload hx hb d_LW_law_320 (lv_at hl 0 rfl) ?_
        refine lv_i2l hx hb d_LW_law_322 rfl ?_
        refine lw_lcmp hx hb (by rw [show (0 : Int32).toNatClampNeg = 0 by decide]; exact ef2) d_LW_law_323 ?_
        refine lv_if_eq (tgt := 329) hx hb d_LW_law_324 (by decide) (fun c_12 => ?_) (fun c_12 => ?_)
        · skip
          refine lv_goto (tgt := 694) hx hb d_LW_law_329 (by decide) ?_
          exact kk h2 (paM 43 n S) _ _ H locs _ _ ls ⟨hA2, (Inv.pa 43 n hI (by have := cnt_41 hI; omega)), (NB.pa 43 n hNB), ⟨_, _, hM2, hR2⟩, _, hf9⟩ (by omega) (by omega) (by omega) (by omega) hP hS (lv_sub hl [2, 3, 4, 5, 6] rfl)
        · skip
          exact absurd rfl c_12
    · skip
      exact absurd rfl c_10

set_option maxHeartbeats 800000 in
set_option maxRecDepth 100000 in
theorem law_c5 {p : Program} {l : Launch} {e : Env} {s : State} {m : MethodId} {args : Array Value} {below : List Frame} {meth : Method} {c : Code} {A : Nat → Prop} {E : fh_E} {b L : Nat} {xs : Nat → Int32} {Q : State → Prop} (C0 : LCt p l s m args c A E b L xs) {bl med md out k : Nat} {ad : Nat → Nat} (CC : CNt med md out ad) (hk3 : 3 * k + 3 ≤ L) (hL : L ≤ 1536) {h : fh_H} {S : mS} {t N : Nat} (HS : LSt E h bl med md out ad S t N) (ht : t ≤ 1640 * k) (hN : N ≤ 11 * k) {H : Heap} {locs : List Loc} {cells slots : Nat} (hc : cells ≤ 30 + 90 * k) (hs : slots ≤ 900 + 3362 * k) {ls : Array Slot} (hP : fh_P E.1 vwCl A h H) (hS : va_S A s.heap H locs) (hl : lv_has ls 7 [(4, .int (nI (3 * k))), (0, .ref b), (1, .ref bl), (2, .ref md), (3, .ref out)])
    (kk : ∀ (h2 : fh_H) (S2 : mS) (t2 N2 : Nat) (H2 : Heap) (locs2 : List Loc) (c2 s2 : Nat) (ls2 : Array Slot), LSt E h2 bl med md out ad S2 t2 N2 → t2 ≤ 1640 * (k + 1) → N2 ≤ 11 * (k + 1) → c2 ≤ 30 + 90 * (k + 1) → s2 ≤ 900 + 3362 * (k + 1) → fh_P E.1 vwCl A h2 H2 → va_S A s.heap H2 locs2 → lv_has ls2 7 [(4, .int (nI (3 * k))), (0, .ref b), (1, .ref bl), (2, .ref md), (3, .ref out)] → W p l e room_1 s m args below meth c H2 locs2 c2 s2 Q (F0 m 694 ls2 [])) : W p l e room_1 s m args below meth c H locs cells slots Q (F0 m 345 ls []) := by
  obtain ⟨hx, hb, hml, hown, hG, hK, hZ, hA, hfl, hX, hbl, hbA⟩ := C0
  obtain ⟨hS0, hI, hNB, ⟨sc, ar, hM, hR⟩, f0, hf0⟩ := HS
  have ed0 := hZ.edn hP
  obtain ⟨dk_x_1, rq_x_1, sv_x_1, hB_x_1⟩ := hS0
  obtain ⟨bcs_x_1, qu_x_1, cs_x_1, kb0, -⟩ := hB_x_1.cells
  have hS0 : ALy E h bl med S := ⟨dk_x_1, rq_x_1, sv_x_1, hB_x_1⟩
  have km_2 : h md = some (.inr (7, [.int (sc 0), .int (sc 1), .int (sc 2), .int (sc 3), .int (sc 4), .int (sc 5), .int (sc 6), .int (sc 7), .int (sc 8), .ref (ad 9), .int (sc 10), .ref (ad 11), .ref (ad 12), .ref (ad 13), .int (sc 14), .int (sc 15), .ref (ad 16), .ref (ad 17), .ref (ad 18), .ref (ad 19), .ref (ad 20), .int (sc 21), .ref (ad 22), .ref (ad 23), .int (sc 24), .int (sc 25), .int (sc 26), .int (sc 27), .int (sc 28)])) := hM.1
  rcases pol_or (xs (3 * k + 1)) with hbad | ⟨n, hn, en⟩
  · skip
    refine lv_aload_n hx hb d_LW_law_345 rfl (lv_at hl 2 rfl) ?_
    refine lv_aload_n hx hb d_LW_law_346 rfl (lv_at hl 1 rfl) ?_
    refine lv_iload hx hb d_LW_law_347 (lv_at hl 0 rfl) ?_
    refine lv_iconst (v := 1) hx hb d_LW_law_349 (by decide) ?_
    refine lv_iadd hx hb d_LW_law_350 ?_
    refine W.eq (g2 := F0 m 351 ls [.int (nI (3 * k + 1)), .ref b, .ref bl]) (by rw [nI_1]) ?_
    refine lw_sld hx hb hX hbl hbA hS (by omega) (by omega) d_LW_law_351 ?_
    refine lv_aload_n hx hb d_LW_law_352 rfl (lv_at hl 4 rfl) ?_
    refine lw_callS (y := y_LW_policy) (bytes := b_LW_policy) (maxL := 4) (ret := (some .int)) (hh := [(0, 9, 12, 28)]) (index := 70) (As := [.ref bl, .int (xs (3 * k + 1)), .ref out]) (rest := []) ⟨hx, hb, hml, hown, hG⟩ (c_LW_policy_b l E h bl med S t hS0 hI out hfl (xs (3 * k + 1)) hbad) rfl rfl rfl (Nat.le_of_ble_eq_true rfl) (Nat.le_of_ble_eq_true rfl) (pay_in hG (gBW gm640)) (hG _ gm0) (hG _ gm638) (hG _ gm639) hdy_LW_policy hK hZ hP hS hA rfl hl.1 rfl (Nat.le_of_ble_eq_true rfl) d_LW_law_353 ⟨Nat.le_trans (m := 60000) (by omega) lw_rc, Nat.le_trans (m := 2000000) (by omega) lw_rs⟩ (fun r h1 H locs hq9 hP hS => ?_)
    obtain ⟨rfl, e9⟩ := hq9
    rw [e9] at hP
    refine W.eq (g2 := F0 m 356 ls [.int 1]) rfl ?_
    have ed1 := hZ.edn hP
    have hM1 := hM
    have hA1 := hS0
    refine lv_istore (lv' := [(5, .int 1), (4, .int (nI (3 * k))), (0, .ref b), (1, .ref bl), (2, .ref md), (3, .ref out)]) hx hb d_LW_law_356 hl (by decide) rfl (fun ls hl => ?_)
    refine lv_aload_n hx hb d_LW_law_358 rfl (lv_at hl 4 rfl) ?_
    refine lv_aload_n hx hb d_LW_law_359 rfl (lv_at hl 2 rfl) ?_
    refine lv_iload hx hb d_LW_law_360 (lv_at hl 1 rfl) ?_
    refine lv_iconst (v := 1) hx hb d_LW_law_362 (by decide) ?_
    refine lv_iadd hx hb d_LW_law_363 ?_
    refine W.eq (g2 := F0 m 364 ls [.int (nI (3 * k + 1)), .ref b, .ref md]) (by rw [nI_1]) ?_
    refine lw_sld hx hb hX hbl hbA hS (by omega) (by omega) d_LW_law_364 ?_
    refine fh_callV (C := R_MD) (y := y_MD_policy) (bytes := b_MD_policy) (maxL := 3) (ret := (some .int)) (index := 72) (As := [.int (xs (3 * k + 1))]) (rest := []) ⟨hx, hb, hml, hown, hG⟩ (c_MD_policy_b l E h md ad sc ar hM1 S t hR hI (xs (3 * k + 1)) hbad) (cwV 1 hG (gV gm853 gm854 gm855 gm8 gm856) rfl rfl rfl ⟨rfl, hdy_MD_policy⟩ ⟨Nat.le_of_ble_eq_true rfl, Nat.le_of_ble_eq_true rfl⟩) C_MD.1 km_2 hK hZ hP hS hA rfl hl.1 rfl (Nat.le_of_ble_eq_true rfl) d_LW_law_365 ⟨Nat.le_trans (m := 60000) (by omega) lw_rc, Nat.le_trans (m := 2000000) (by omega) lw_rs⟩ (fun r h2 H locs hq9 hP hS => ?_)
    obtain ⟨rfl, sc2, ar2, hM2, hR2, c2, K2⟩ := hq9
    refine W.eq (g2 := F0 m 368 ls [.int 0]) rfl ?_
    have ed2 := hZ.edn hP
    have hA2 := hA1.keepM hM1 CC ed1 ed2 K2
    have hf9 := K2.outK CC hf0
    have km_3 : h2 md = some (.inr (7, [.int (sc2 0), .int (sc2 1), .int (sc2 2), .int (sc2 3), .int (sc2 4), .int (sc2 5), .int (sc2 6), .int (sc2 7), .int (sc2 8), .ref (ad 9), .int (sc2 10), .ref (ad 11), .ref (ad 12), .ref (ad 13), .int (sc2 14), .int (sc2 15), .ref (ad 16), .ref (ad 17), .ref (ad 18), .ref (ad 19), .ref (ad 20), .int (sc2 21), .ref (ad 22), .ref (ad 23), .int (sc2 24), .int (sc2 25), .int (sc2 26), .int (sc2 27), .int (sc2 28)])) := hM2.1
    refine lv_istore (lv' := [(6, .int 0), (5, .int 1), (4, .int (nI (3 * k))), (0, .ref b), (1, .ref bl), (2, .ref md), (3, .ref out)]) hx hb d_LW_law_368 hl (by decide) rfl (fun ls hl => ?_)
    refine lv_aload_n hx hb d_LW_law_370 rfl (lv_at hl 5 rfl) ?_
    refine fh_callV (C := R_MD) (y := y_MD_thrown) (bytes := b_MD_thrown) (maxL := 1) (ret := (some .int)) (index := 52) (As := []) (rest := []) ⟨hx, hb, hml, hown, hG⟩ (c_MD_thrown l E h2 md ad sc2 ar2 hM2) (cwV 0 hG (gV gm762 gm763 gm764 gm8 gm765) rfl rfl rfl ⟨rfl, hdy_MD_thrown⟩ ⟨Nat.le_of_ble_eq_true rfl, Nat.le_of_ble_eq_true rfl⟩) C_MD.1 km_3 hK hZ hP hS hA rfl hl.1 rfl (Nat.le_of_ble_eq_true rfl) d_LW_law_371 ⟨Nat.le_trans (m := 60000) (by omega) lw_rc, Nat.le_trans (m := 2000000) (by omega) lw_rs⟩ (fun r h1 H locs hq9 hP hS => ?_)
    obtain ⟨rfl, e9⟩ := hq9
    rw [e9] at hP
    refine W.eq (g2 := F0 m 374 ls [.int (sc2 0)]) rfl ?_
    refine W.eq (g2 := F0 m 374 ls [.int 1]) (by rw [c2]) ?_
    refine lv_iload hx hb d_LW_law_374 (lv_at hl 1 rfl) ?_
    refine lv_icmp_eq (tgt := 381) hx hb d_LW_law_376 (by decide) (fun c_4 => ?_) (fun c_4 => ?_)
    · skip
      refine lv_iload hx hb d_LW_law_381 (lv_at hl 1 rfl) ?_
      refine lv_if_ne (tgt := 398) hx hb d_LW_law_383 (by decide) (fun c_5 => ?_) (fun c_5 => ?_)
      · skip
        refine lv_goto (tgt := 694) hx hb d_LW_law_398 (by decide) ?_
        exact kk h2 (S) _ _ H locs _ _ ls ⟨hA2, hI, hNB, ⟨_, _, hM2, hR2⟩, _, hf9⟩ (by omega) (by omega) (by omega) (by omega) hP hS (lv_sub hl [2, 3, 4, 5, 6] rfl)
      · skip
        exact absurd c_5 (by decide)
    · skip
      exact absurd rfl c_4
  · skip
    refine lv_aload_n hx hb d_LW_law_345 rfl (lv_at hl 2 rfl) ?_
    refine lv_aload_n hx hb d_LW_law_346 rfl (lv_at hl 1 rfl) ?_
    refine lv_iload hx hb d_LW_law_347 (lv_at hl 0 rfl) ?_
    refine lv_iconst (v := 1) hx hb d_LW_law_349 (by decide) ?_
    refine lv_iadd hx hb d_LW_law_350 ?_
    refine W.eq (g2 := F0 m 351 ls [.int (nI (3 * k + 1)), .ref b, .ref bl]) (by rw [nI_1]) ?_
    refine lw_sld hx hb hX hbl hbA hS (by omega) (by omega) d_LW_law_351 ?_
    rw [en]
    refine lv_aload_n hx hb d_LW_law_352 rfl (lv_at hl 4 rfl) ?_
    refine lw_callS (y := y_LW_policy) (bytes := b_LW_policy) (maxL := 4) (ret := (some .int)) (hh := [(0, 9, 12, 28)]) (index := 70) (As := [.ref bl, .int (nI n), .ref out]) (rest := []) ⟨hx, hb, hml, hown, hG⟩ (c_LW_policy l E h bl med S t hS0 hI out f0 hf0 CC.2.1 n hn) rfl rfl rfl (Nat.le_of_ble_eq_true rfl) (Nat.le_of_ble_eq_true rfl) (pay_in hG (gBW gm640)) (hG _ gm0) (hG _ gm638) (hG _ gm639) hdy_LW_policy hK hZ hP hS hA rfl hl.1 rfl (Nat.le_of_ble_eq_true rfl) d_LW_law_353 ⟨Nat.le_trans (m := 60000) (by omega) lw_rc, Nat.le_trans (m := 2000000) (by omega) lw_rs⟩ (fun r h1 H locs hq9 hP hS => ?_)
    obtain ⟨rfl, ⟨f2, hf2, ef2⟩, hA1, hk1⟩ := hq9
    refine W.eq (g2 := F0 m 356 ls [.int 0]) rfl ?_
    have ed1 := hZ.edn hP
    have hM1 := hM.keepB CC hk1
    obtain ⟨dk_x_7, rq_x_7, sv_x_7, hB_x_7⟩ := hA1
    obtain ⟨bcs_x_7, qu_x_7, cs_x_7, kb_6, -⟩ := hB_x_7.cells
    have hA1 : ALy E h1 bl med (poM S (nI n)) := ⟨dk_x_7, rq_x_7, sv_x_7, hB_x_7⟩
    have km_8 : h1 md = some (.inr (7, [.int (sc 0), .int (sc 1), .int (sc 2), .int (sc 3), .int (sc 4), .int (sc 5), .int (sc 6), .int (sc 7), .int (sc 8), .ref (ad 9), .int (sc 10), .ref (ad 11), .ref (ad 12), .ref (ad 13), .int (sc 14), .int (sc 15), .ref (ad 16), .ref (ad 17), .ref (ad 18), .ref (ad 19), .ref (ad 20), .int (sc 21), .ref (ad 22), .ref (ad 23), .int (sc 24), .int (sc 25), .int (sc 26), .int (sc 27), .int (sc 28)])) := hM1.1
    refine lv_istore (lv' := [(5, .int 0), (4, .int (nI (3 * k))), (0, .ref b), (1, .ref bl), (2, .ref md), (3, .ref out)]) hx hb d_LW_law_356 hl (by decide) rfl (fun ls hl => ?_)
    refine lv_aload_n hx hb d_LW_law_358 rfl (lv_at hl 4 rfl) ?_
    refine lv_aload_n hx hb d_LW_law_359 rfl (lv_at hl 2 rfl) ?_
    refine lv_iload hx hb d_LW_law_360 (lv_at hl 1 rfl) ?_
    refine lv_iconst (v := 1) hx hb d_LW_law_362 (by decide) ?_
    refine lv_iadd hx hb d_LW_law_363 ?_
    refine W.eq (g2 := F0 m 364 ls [.int (nI (3 * k + 1)), .ref b, .ref md]) (by rw [nI_1]) ?_
    refine lw_sld hx hb hX hbl hbA hS (by omega) (by omega) d_LW_law_364 ?_
    rw [en]
    refine fh_callV (C := R_MD) (y := y_MD_policy) (bytes := b_MD_policy) (maxL := 3) (ret := (some .int)) (index := 72) (As := [.int (nI n)]) (rest := []) ⟨hx, hb, hml, hown, hG⟩ (c_MD_policy l E h1 md ad sc ar hM1 S t hR hI n hn) (cwV 1 hG (gV gm853 gm854 gm855 gm8 gm856) rfl rfl rfl ⟨rfl, hdy_MD_policy⟩ ⟨Nat.le_of_ble_eq_true rfl, Nat.le_of_ble_eq_true rfl⟩) C_MD.1 km_8 hK hZ hP hS hA rfl hl.1 rfl (Nat.le_of_ble_eq_true rfl) d_LW_law_365 ⟨Nat.le_trans (m := 60000) (by omega) lw_rc, Nat.le_trans (m := 2000000) (by omega) lw_rs⟩ (fun r h2 H locs hq9 hP hS => ?_)
    obtain ⟨rfl, sc2, ar2, hM2, hR2, c2, K2⟩ := hq9
    refine W.eq (g2 := F0 m 368 ls [.int (S.wy)]) rfl ?_
    have ed2 := hZ.edn hP
    have hA2 := hA1.keepM hM1 CC ed1 ed2 K2
    have hf9 := K2.outK CC hf2
    have km_9 : h2 md = some (.inr (7, [.int (sc2 0), .int (sc2 1), .int (sc2 2), .int (sc2 3), .int (sc2 4), .int (sc2 5), .int (sc2 6), .int (sc2 7), .int (sc2 8), .ref (ad 9), .int (sc2 10), .ref (ad 11), .ref (ad 12), .ref (ad 13), .int (sc2 14), .int (sc2 15), .ref (ad 16), .ref (ad 17), .ref (ad 18), .ref (ad 19), .ref (ad 20), .int (sc2 21), .ref (ad 22), .ref (ad 23), .int (sc2 24), .int (sc2 25), .int (sc2 26), .int (sc2 27), .int (sc2 28)])) := hM2.1
    refine lv_istore (lv' := [(6, .int (S.wy)), (5, .int 0), (4, .int (nI (3 * k))), (0, .ref b), (1, .ref bl), (2, .ref md), (3, .ref out)]) hx hb d_LW_law_368 hl (by decide) rfl (fun ls hl => ?_)
    refine lv_aload_n hx hb d_LW_law_370 rfl (lv_at hl 5 rfl) ?_
    refine fh_callV (C := R_MD) (y := y_MD_thrown) (bytes := b_MD_thrown) (maxL := 1) (ret := (some .int)) (index := 52) (As := []) (rest := []) ⟨hx, hb, hml, hown, hG⟩ (c_MD_thrown l E h2 md ad sc2 ar2 hM2) (cwV 0 hG (gV gm762 gm763 gm764 gm8 gm765) rfl rfl rfl ⟨rfl, hdy_MD_thrown⟩ ⟨Nat.le_of_ble_eq_true rfl, Nat.le_of_ble_eq_true rfl⟩) C_MD.1 km_9 hK hZ hP hS hA rfl hl.1 rfl (Nat.le_of_ble_eq_true rfl) d_LW_law_371 ⟨Nat.le_trans (m := 60000) (by omega) lw_rc, Nat.le_trans (m := 2000000) (by omega) lw_rs⟩ (fun r h1 H locs hq9 hP hS => ?_)
    obtain ⟨rfl, e9⟩ := hq9
    rw [e9] at hP
    refine W.eq (g2 := F0 m 374 ls [.int (sc2 0)]) rfl ?_
    refine W.eq (g2 := F0 m 374 ls [.int 0]) (by rw [c2]) ?_
    refine lv_iload hx hb d_LW_law_374 (lv_at hl 1 rfl) ?_
    refine lv_icmp_eq (tgt := 381) hx hb d_LW_law_376 (by decide) (fun c_10 => ?_) (fun c_10 => ?_)
    · skip
      refine lv_iload hx hb d_LW_law_381 (lv_at hl 1 rfl) ?_
      refine lv_if_ne (tgt := 398) hx hb d_LW_law_383 (by decide) (fun c_11 => ?_) (fun c_11 => ?_)
      · skip
        exact absurd rfl c_11
      · skip
        refine lv_aload_n hx hb d_LW_law_386 rfl (lv_at hl 6 rfl) ?_
        refine lv_iconst (v := 0) hx hb d_LW_law_387 (by decide) ?_
        refine fh_lald hx hb hK hP 1 hf9 rfl (vp_in_nI (n := 0) (N := 1) (by decide) (by decide)) d_LW_law_388 ?_
        refine lv_iload hx hb d_LW_law_389 (lv_at hl 0 rfl) ?_
        refine lv_i2l hx hb d_LW_law_391 rfl ?_
        refine lw_lcmp hx hb (by rw [show (0 : Int32).toNatClampNeg = 0 by decide]; exact ef2) d_LW_law_392 ?_
        refine lv_if_eq (tgt := 398) hx hb d_LW_law_393 (by decide) (fun c_12 => ?_) (fun c_12 => ?_)
        · skip
          refine lv_goto (tgt := 694) hx hb d_LW_law_398 (by decide) ?_
          exact kk h2 (poM S (nI n)) _ _ H locs _ _ ls ⟨hA2, (hI.po hn), hNB.po, ⟨_, _, hM2, hR2⟩, _, hf9⟩ (by omega) (by omega) (by omega) (by omega) hP hS (lv_sub hl [2, 3, 4, 5, 6] rfl)
        · skip
          exact absurd rfl c_12
    · skip
      exact absurd rfl c_10

set_option maxHeartbeats 800000 in
set_option maxRecDepth 100000 in
theorem law_c7 {p : Program} {l : Launch} {e : Env} {s : State} {m : MethodId} {args : Array Value} {below : List Frame} {meth : Method} {c : Code} {A : Nat → Prop} {E : fh_E} {b L : Nat} {xs : Nat → Int32} {Q : State → Prop} (C0 : LCt p l s m args c A E b L xs) {bl med md out k : Nat} {ad : Nat → Nat} (CC : CNt med md out ad) (hk3 : 3 * k + 3 ≤ L) (hL : L ≤ 1536) {h : fh_H} {S : mS} {t N : Nat} (HS : LSt E h bl med md out ad S t N) (ht : t ≤ 1640 * k) (hN : N ≤ 11 * k) {H : Heap} {locs : List Loc} {cells slots : Nat} (hc : cells ≤ 30 + 90 * k) (hs : slots ≤ 900 + 3362 * k) {ls : Array Slot} (hP : fh_P E.1 vwCl A h H) (hS : va_S A s.heap H locs) (hl : lv_has ls 7 [(4, .int (nI (3 * k))), (0, .ref b), (1, .ref bl), (2, .ref md), (3, .ref out)])
    (kk : ∀ (h2 : fh_H) (S2 : mS) (t2 N2 : Nat) (H2 : Heap) (locs2 : List Loc) (c2 s2 : Nat) (ls2 : Array Slot), LSt E h2 bl med md out ad S2 t2 N2 → t2 ≤ 1640 * (k + 1) → N2 ≤ 11 * (k + 1) → c2 ≤ 30 + 90 * (k + 1) → s2 ≤ 900 + 3362 * (k + 1) → fh_P E.1 vwCl A h2 H2 → va_S A s.heap H2 locs2 → lv_has ls2 7 [(4, .int (nI (3 * k))), (0, .ref b), (1, .ref bl), (2, .ref md), (3, .ref out)] → W p l e room_1 s m args below meth c H2 locs2 c2 s2 Q (F0 m 694 ls2 [])) : W p l e room_1 s m args below meth c H locs cells slots Q (F0 m 414 ls []) := by
  obtain ⟨hx, hb, hml, hown, hG, hK, hZ, hA, hfl, hX, hbl, hbA⟩ := C0
  obtain ⟨hS0, hI, hNB, ⟨sc, ar, hM, hR⟩, f0, hf0⟩ := HS
  have ed0 := hZ.edn hP
  obtain ⟨dk_x_1, rq_x_1, sv_x_1, hB_x_1⟩ := hS0
  obtain ⟨bcs_x_1, qu_x_1, cs_x_1, kb0, -⟩ := hB_x_1.cells
  have hS0 : ALy E h bl med S := ⟨dk_x_1, rq_x_1, sv_x_1, hB_x_1⟩
  have km_2 : h md = some (.inr (7, [.int (sc 0), .int (sc 1), .int (sc 2), .int (sc 3), .int (sc 4), .int (sc 5), .int (sc 6), .int (sc 7), .int (sc 8), .ref (ad 9), .int (sc 10), .ref (ad 11), .ref (ad 12), .ref (ad 13), .int (sc 14), .int (sc 15), .ref (ad 16), .ref (ad 17), .ref (ad 18), .ref (ad 19), .ref (ad 20), .int (sc 21), .ref (ad 22), .ref (ad 23), .int (sc 24), .int (sc 25), .int (sc 26), .int (sc 27), .int (sc 28)])) := hM.1
  rcases blk_or (xs (3 * k + 1)) with hbad | ⟨n, hn, en⟩
  · skip
    refine lv_aload_n hx hb d_LW_law_414 rfl (lv_at hl 2 rfl) ?_
    refine lv_aload_n hx hb d_LW_law_415 rfl (lv_at hl 1 rfl) ?_
    refine lv_iload hx hb d_LW_law_416 (lv_at hl 0 rfl) ?_
    refine lv_iconst (v := 1) hx hb d_LW_law_418 (by decide) ?_
    refine lv_iadd hx hb d_LW_law_419 ?_
    refine W.eq (g2 := F0 m 420 ls [.int (nI (3 * k + 1)), .ref b, .ref bl]) (by rw [nI_1]) ?_
    refine lw_sld hx hb hX hbl hbA hS (by omega) (by omega) d_LW_law_420 ?_
    refine lv_aload_n hx hb d_LW_law_421 rfl (lv_at hl 4 rfl) ?_
    refine lw_callS (y := y_LW_newest) (bytes := b_LW_newest) (maxL := 4) (ret := (some .int)) (hh := [(0, 9, 12, 13)]) (index := 77) (As := [.ref bl, .int (xs (3 * k + 1)), .ref out]) (rest := []) ⟨hx, hb, hml, hown, hG⟩ (c_LW_newest_b l E h bl med S t hS0 hI out hfl (xs (3 * k + 1)) hbad) rfl rfl rfl (Nat.le_of_ble_eq_true rfl) (Nat.le_of_ble_eq_true rfl) (pay_in hG (gBW gm648)) (hG _ gm0) (hG _ gm646) (hG _ gm647) hdy_LW_newest hK hZ hP hS hA rfl hl.1 rfl (Nat.le_of_ble_eq_true rfl) d_LW_law_422 ⟨Nat.le_trans (m := 60000) (by omega) lw_rc, Nat.le_trans (m := 2000000) (by omega) lw_rs⟩ (fun r h1 H locs hq9 hP hS => ?_)
    obtain ⟨rfl, e9⟩ := hq9
    rw [e9] at hP
    refine W.eq (g2 := F0 m 425 ls [.int 1]) rfl ?_
    have ed1 := hZ.edn hP
    have hM1 := hM
    have hA1 := hS0
    refine lv_istore (lv' := [(5, .int 1), (4, .int (nI (3 * k))), (0, .ref b), (1, .ref bl), (2, .ref md), (3, .ref out)]) hx hb d_LW_law_425 hl (by decide) rfl (fun ls hl => ?_)
    refine lv_aload_n hx hb d_LW_law_427 rfl (lv_at hl 4 rfl) ?_
    refine lv_aload_n hx hb d_LW_law_428 rfl (lv_at hl 2 rfl) ?_
    refine lv_iload hx hb d_LW_law_429 (lv_at hl 1 rfl) ?_
    refine lv_iconst (v := 1) hx hb d_LW_law_431 (by decide) ?_
    refine lv_iadd hx hb d_LW_law_432 ?_
    refine W.eq (g2 := F0 m 433 ls [.int (nI (3 * k + 1)), .ref b, .ref md]) (by rw [nI_1]) ?_
    refine lw_sld hx hb hX hbl hbA hS (by omega) (by omega) d_LW_law_433 ?_
    refine fh_callV (C := R_MD) (y := y_MD_newest) (bytes := b_MD_newest) (maxL := 2) (ret := (some .int)) (index := 79) (As := [.int (xs (3 * k + 1))]) (rest := []) ⟨hx, hb, hml, hown, hG⟩ (c_MD_newest_b l E h md ad sc ar hM1 S t hR hI (xs (3 * k + 1)) hbad) (cwV 1 hG (gV gm865 gm866 gm867 gm8 gm868) rfl rfl rfl ⟨rfl, hdy_MD_newest⟩ ⟨Nat.le_of_ble_eq_true rfl, Nat.le_of_ble_eq_true rfl⟩) C_MD.1 km_2 hK hZ hP hS hA rfl hl.1 rfl (Nat.le_of_ble_eq_true rfl) d_LW_law_434 ⟨Nat.le_trans (m := 60000) (by omega) lw_rc, Nat.le_trans (m := 2000000) (by omega) lw_rs⟩ (fun r h2 H locs hq9 hP hS => ?_)
    obtain ⟨rfl, sc2, ar2, hM2, hR2, c2, K2⟩ := hq9
    refine W.eq (g2 := F0 m 437 ls [.int 0]) rfl ?_
    have ed2 := hZ.edn hP
    have hA2 := hA1.keepM hM1 CC ed1 ed2 K2
    have hf9 := K2.outK CC hf0
    have km_3 : h2 md = some (.inr (7, [.int (sc2 0), .int (sc2 1), .int (sc2 2), .int (sc2 3), .int (sc2 4), .int (sc2 5), .int (sc2 6), .int (sc2 7), .int (sc2 8), .ref (ad 9), .int (sc2 10), .ref (ad 11), .ref (ad 12), .ref (ad 13), .int (sc2 14), .int (sc2 15), .ref (ad 16), .ref (ad 17), .ref (ad 18), .ref (ad 19), .ref (ad 20), .int (sc2 21), .ref (ad 22), .ref (ad 23), .int (sc2 24), .int (sc2 25), .int (sc2 26), .int (sc2 27), .int (sc2 28)])) := hM2.1
    refine lv_istore (lv' := [(6, .int 0), (5, .int 1), (4, .int (nI (3 * k))), (0, .ref b), (1, .ref bl), (2, .ref md), (3, .ref out)]) hx hb d_LW_law_437 hl (by decide) rfl (fun ls hl => ?_)
    refine lv_aload_n hx hb d_LW_law_439 rfl (lv_at hl 5 rfl) ?_
    refine fh_callV (C := R_MD) (y := y_MD_thrown) (bytes := b_MD_thrown) (maxL := 1) (ret := (some .int)) (index := 52) (As := []) (rest := []) ⟨hx, hb, hml, hown, hG⟩ (c_MD_thrown l E h2 md ad sc2 ar2 hM2) (cwV 0 hG (gV gm762 gm763 gm764 gm8 gm765) rfl rfl rfl ⟨rfl, hdy_MD_thrown⟩ ⟨Nat.le_of_ble_eq_true rfl, Nat.le_of_ble_eq_true rfl⟩) C_MD.1 km_3 hK hZ hP hS hA rfl hl.1 rfl (Nat.le_of_ble_eq_true rfl) d_LW_law_440 ⟨Nat.le_trans (m := 60000) (by omega) lw_rc, Nat.le_trans (m := 2000000) (by omega) lw_rs⟩ (fun r h1 H locs hq9 hP hS => ?_)
    obtain ⟨rfl, e9⟩ := hq9
    rw [e9] at hP
    refine W.eq (g2 := F0 m 443 ls [.int (sc2 0)]) rfl ?_
    refine W.eq (g2 := F0 m 443 ls [.int 1]) (by rw [c2]) ?_
    refine lv_iload hx hb d_LW_law_443 (lv_at hl 1 rfl) ?_
    refine lv_icmp_eq (tgt := 450) hx hb d_LW_law_445 (by decide) (fun c_4 => ?_) (fun c_4 => ?_)
    · skip
      refine lv_iload hx hb d_LW_law_450 (lv_at hl 1 rfl) ?_
      refine lv_if_ne (tgt := 467) hx hb d_LW_law_452 (by decide) (fun c_5 => ?_) (fun c_5 => ?_)
      · skip
        refine lv_goto (tgt := 694) hx hb d_LW_law_467 (by decide) ?_
        exact kk h2 (S) _ _ H locs _ _ ls ⟨hA2, hI, hNB, ⟨_, _, hM2, hR2⟩, _, hf9⟩ (by omega) (by omega) (by omega) (by omega) hP hS (lv_sub hl [2, 3, 4, 5, 6] rfl)
      · skip
        exact absurd c_5 (by decide)
    · skip
      exact absurd rfl c_4
  · skip
    refine lv_aload_n hx hb d_LW_law_414 rfl (lv_at hl 2 rfl) ?_
    refine lv_aload_n hx hb d_LW_law_415 rfl (lv_at hl 1 rfl) ?_
    refine lv_iload hx hb d_LW_law_416 (lv_at hl 0 rfl) ?_
    refine lv_iconst (v := 1) hx hb d_LW_law_418 (by decide) ?_
    refine lv_iadd hx hb d_LW_law_419 ?_
    refine W.eq (g2 := F0 m 420 ls [.int (nI (3 * k + 1)), .ref b, .ref bl]) (by rw [nI_1]) ?_
    refine lw_sld hx hb hX hbl hbA hS (by omega) (by omega) d_LW_law_420 ?_
    rw [en]
    refine lv_aload_n hx hb d_LW_law_421 rfl (lv_at hl 4 rfl) ?_
    refine lw_callS (y := y_LW_newest) (bytes := b_LW_newest) (maxL := 4) (ret := (some .int)) (hh := [(0, 9, 12, 13)]) (index := 77) (As := [.ref bl, .int (nI n), .ref out]) (rest := []) ⟨hx, hb, hml, hown, hG⟩ (c_LW_newest l E h bl med S t hS0 hI out f0 hf0 CC.2.1 n hn) rfl rfl rfl (Nat.le_of_ble_eq_true rfl) (Nat.le_of_ble_eq_true rfl) (pay_in hG (gBW gm648)) (hG _ gm0) (hG _ gm646) (hG _ gm647) hdy_LW_newest hK hZ hP hS hA rfl hl.1 rfl (Nat.le_of_ble_eq_true rfl) d_LW_law_422 ⟨Nat.le_trans (m := 60000) (by omega) lw_rc, Nat.le_trans (m := 2000000) (by omega) lw_rs⟩ (fun r h1 H locs hq9 hP hS => ?_)
    obtain ⟨rfl, ⟨f2, hf2, ef2⟩, hA1, hk1⟩ := hq9
    refine W.eq (g2 := F0 m 425 ls [.int 0]) rfl ?_
    have ed1 := hZ.edn hP
    have hM1 := hM.keepB CC hk1
    obtain ⟨dk_x_7, rq_x_7, sv_x_7, hB_x_7⟩ := hA1
    obtain ⟨bcs_x_7, qu_x_7, cs_x_7, kb_6, -⟩ := hB_x_7.cells
    have hA1 : ALy E h1 bl med S := ⟨dk_x_7, rq_x_7, sv_x_7, hB_x_7⟩
    have km_8 : h1 md = some (.inr (7, [.int (sc 0), .int (sc 1), .int (sc 2), .int (sc 3), .int (sc 4), .int (sc 5), .int (sc 6), .int (sc 7), .int (sc 8), .ref (ad 9), .int (sc 10), .ref (ad 11), .ref (ad 12), .ref (ad 13), .int (sc 14), .int (sc 15), .ref (ad 16), .ref (ad 17), .ref (ad 18), .ref (ad 19), .ref (ad 20), .int (sc 21), .ref (ad 22), .ref (ad 23), .int (sc 24), .int (sc 25), .int (sc 26), .int (sc 27), .int (sc 28)])) := hM1.1
    refine lv_istore (lv' := [(5, .int 0), (4, .int (nI (3 * k))), (0, .ref b), (1, .ref bl), (2, .ref md), (3, .ref out)]) hx hb d_LW_law_425 hl (by decide) rfl (fun ls hl => ?_)
    refine lv_aload_n hx hb d_LW_law_427 rfl (lv_at hl 4 rfl) ?_
    refine lv_aload_n hx hb d_LW_law_428 rfl (lv_at hl 2 rfl) ?_
    refine lv_iload hx hb d_LW_law_429 (lv_at hl 1 rfl) ?_
    refine lv_iconst (v := 1) hx hb d_LW_law_431 (by decide) ?_
    refine lv_iadd hx hb d_LW_law_432 ?_
    refine W.eq (g2 := F0 m 433 ls [.int (nI (3 * k + 1)), .ref b, .ref md]) (by rw [nI_1]) ?_
    refine lw_sld hx hb hX hbl hbA hS (by omega) (by omega) d_LW_law_433 ?_
    rw [en]
    refine fh_callV (C := R_MD) (y := y_MD_newest) (bytes := b_MD_newest) (maxL := 2) (ret := (some .int)) (index := 79) (As := [.int (nI n)]) (rest := []) ⟨hx, hb, hml, hown, hG⟩ (c_MD_newest l E h1 md ad sc ar hM1 S t hR hI n hn) (cwV 1 hG (gV gm865 gm866 gm867 gm8 gm868) rfl rfl rfl ⟨rfl, hdy_MD_newest⟩ ⟨Nat.le_of_ble_eq_true rfl, Nat.le_of_ble_eq_true rfl⟩) C_MD.1 km_8 hK hZ hP hS hA rfl hl.1 rfl (Nat.le_of_ble_eq_true rfl) d_LW_law_434 ⟨Nat.le_trans (m := 60000) (by omega) lw_rc, Nat.le_trans (m := 2000000) (by omega) lw_rs⟩ (fun r h2 H locs hq9 hP hS => ?_)
    obtain ⟨rfl, sc2, ar2, hM2, hR2, c2, K2⟩ := hq9
    refine W.eq (g2 := F0 m 437 ls [.int (newM S (nI n))]) rfl ?_
    have ed2 := hZ.edn hP
    have hA2 := hA1.keepM hM1 CC ed1 ed2 K2
    have hf9 := K2.outK CC hf2
    have km_9 : h2 md = some (.inr (7, [.int (sc2 0), .int (sc2 1), .int (sc2 2), .int (sc2 3), .int (sc2 4), .int (sc2 5), .int (sc2 6), .int (sc2 7), .int (sc2 8), .ref (ad 9), .int (sc2 10), .ref (ad 11), .ref (ad 12), .ref (ad 13), .int (sc2 14), .int (sc2 15), .ref (ad 16), .ref (ad 17), .ref (ad 18), .ref (ad 19), .ref (ad 20), .int (sc2 21), .ref (ad 22), .ref (ad 23), .int (sc2 24), .int (sc2 25), .int (sc2 26), .int (sc2 27), .int (sc2 28)])) := hM2.1
    refine lv_istore (lv' := [(6, .int (newM S (nI n))), (5, .int 0), (4, .int (nI (3 * k))), (0, .ref b), (1, .ref bl), (2, .ref md), (3, .ref out)]) hx hb d_LW_law_437 hl (by decide) rfl (fun ls hl => ?_)
    refine lv_aload_n hx hb d_LW_law_439 rfl (lv_at hl 5 rfl) ?_
    refine fh_callV (C := R_MD) (y := y_MD_thrown) (bytes := b_MD_thrown) (maxL := 1) (ret := (some .int)) (index := 52) (As := []) (rest := []) ⟨hx, hb, hml, hown, hG⟩ (c_MD_thrown l E h2 md ad sc2 ar2 hM2) (cwV 0 hG (gV gm762 gm763 gm764 gm8 gm765) rfl rfl rfl ⟨rfl, hdy_MD_thrown⟩ ⟨Nat.le_of_ble_eq_true rfl, Nat.le_of_ble_eq_true rfl⟩) C_MD.1 km_9 hK hZ hP hS hA rfl hl.1 rfl (Nat.le_of_ble_eq_true rfl) d_LW_law_440 ⟨Nat.le_trans (m := 60000) (by omega) lw_rc, Nat.le_trans (m := 2000000) (by omega) lw_rs⟩ (fun r h1 H locs hq9 hP hS => ?_)
    obtain ⟨rfl, e9⟩ := hq9
    rw [e9] at hP
    refine W.eq (g2 := F0 m 443 ls [.int (sc2 0)]) rfl ?_
    refine W.eq (g2 := F0 m 443 ls [.int 0]) (by rw [c2]) ?_
    refine lv_iload hx hb d_LW_law_443 (lv_at hl 1 rfl) ?_
    refine lv_icmp_eq (tgt := 450) hx hb d_LW_law_445 (by decide) (fun c_10 => ?_) (fun c_10 => ?_)
    · skip
      refine lv_iload hx hb d_LW_law_450 (lv_at hl 1 rfl) ?_
      refine lv_if_ne (tgt := 467) hx hb d_LW_law_452 (by decide) (fun c_11 => ?_) (fun c_11 => ?_)
      · skip
        exact absurd rfl c_11
      · skip
        refine lv_aload_n hx hb d_LW_law_455 rfl (lv_at hl 6 rfl) ?_
        refine lv_iconst (v := 0) hx hb d_LW_law_456 (by decide) ?_
        refine fh_lald hx hb hK hP 1 hf9 rfl (vp_in_nI (n := 0) (N := 1) (by decide) (by decide)) d_LW_law_457 ?_
        refine lv_iload hx hb d_LW_law_458 (lv_at hl 0 rfl) ?_
        refine lv_i2l hx hb d_LW_law_460 rfl ?_
        refine lw_lcmp hx hb (by rw [show (0 : Int32).toNatClampNeg = 0 by decide]; exact ef2) d_LW_law_461 ?_
        refine lv_if_eq (tgt := 467) hx hb d_LW_law_462 (by decide) (fun c_12 => ?_) (fun c_12 => ?_)
        · skip
          refine lv_goto (tgt := 694) hx hb d_LW_law_467 (by decide) ?_
          exact kk h2 (S) _ _ H locs _ _ ls ⟨hA2, hI, hNB, ⟨_, _, hM2, hR2⟩, _, hf9⟩ (by omega) (by omega) (by omega) (by omega) hP hS (lv_sub hl [2, 3, 4, 5, 6] rfl)
        · skip
          exact absurd rfl c_12
    · skip
      exact absurd rfl c_10

set_option maxHeartbeats 800000 in
set_option maxRecDepth 100000 in
theorem law_c8 {p : Program} {l : Launch} {e : Env} {s : State} {m : MethodId} {args : Array Value} {below : List Frame} {meth : Method} {c : Code} {A : Nat → Prop} {E : fh_E} {b L : Nat} {xs : Nat → Int32} {Q : State → Prop} (C0 : LCt p l s m args c A E b L xs) {bl med md out k : Nat} {ad : Nat → Nat} (CC : CNt med md out ad) (hk3 : 3 * k + 3 ≤ L) (hL : L ≤ 1536) {h : fh_H} {S : mS} {t N : Nat} (HS : LSt E h bl med md out ad S t N) (ht : t ≤ 1640 * k) (hN : N ≤ 11 * k) {H : Heap} {locs : List Loc} {cells slots : Nat} (hc : cells ≤ 30 + 90 * k) (hs : slots ≤ 900 + 3362 * k) {ls : Array Slot} (hP : fh_P E.1 vwCl A h H) (hS : va_S A s.heap H locs) (hl : lv_has ls 7 [(4, .int (nI (3 * k))), (0, .ref b), (1, .ref bl), (2, .ref md), (3, .ref out)])
    (kk : ∀ (h2 : fh_H) (S2 : mS) (t2 N2 : Nat) (H2 : Heap) (locs2 : List Loc) (c2 s2 : Nat) (ls2 : Array Slot), LSt E h2 bl med md out ad S2 t2 N2 → t2 ≤ 1640 * (k + 1) → N2 ≤ 11 * (k + 1) → c2 ≤ 30 + 90 * (k + 1) → s2 ≤ 900 + 3362 * (k + 1) → fh_P E.1 vwCl A h2 H2 → va_S A s.heap H2 locs2 → lv_has ls2 7 [(4, .int (nI (3 * k))), (0, .ref b), (1, .ref bl), (2, .ref md), (3, .ref out)] → W p l e room_1 s m args below meth c H2 locs2 c2 s2 Q (F0 m 694 ls2 [])) : W p l e room_1 s m args below meth c H locs cells slots Q (F0 m 470 ls []) := by
  obtain ⟨hx, hb, hml, hown, hG, hK, hZ, hA, hfl, hX, hbl, hbA⟩ := C0
  obtain ⟨hS0, hI, hNB, ⟨sc, ar, hM, hR⟩, f0, hf0⟩ := HS
  have ed0 := hZ.edn hP
  obtain ⟨dk_x_1, rq_x_1, sv_x_1, hB_x_1⟩ := hS0
  obtain ⟨bcs_x_1, qu_x_1, cs_x_1, kb0, -⟩ := hB_x_1.cells
  have hS0 : ALy E h bl med S := ⟨dk_x_1, rq_x_1, sv_x_1, hB_x_1⟩
  have km_2 : h md = some (.inr (7, [.int (sc 0), .int (sc 1), .int (sc 2), .int (sc 3), .int (sc 4), .int (sc 5), .int (sc 6), .int (sc 7), .int (sc 8), .ref (ad 9), .int (sc 10), .ref (ad 11), .ref (ad 12), .ref (ad 13), .int (sc 14), .int (sc 15), .ref (ad 16), .ref (ad 17), .ref (ad 18), .ref (ad 19), .ref (ad 20), .int (sc 21), .ref (ad 22), .ref (ad 23), .int (sc 24), .int (sc 25), .int (sc 26), .int (sc 27), .int (sc 28)])) := hM.1
  rcases blk_or (xs (3 * k + 1)) with hbad | ⟨n, hn, en⟩
  · skip
    refine lv_aload_n hx hb d_LW_law_470 rfl (lv_at hl 2 rfl) ?_
    refine lv_aload_n hx hb d_LW_law_471 rfl (lv_at hl 1 rfl) ?_
    refine lv_iload hx hb d_LW_law_472 (lv_at hl 0 rfl) ?_
    refine lv_iconst (v := 1) hx hb d_LW_law_474 (by decide) ?_
    refine lv_iadd hx hb d_LW_law_475 ?_
    refine W.eq (g2 := F0 m 476 ls [.int (nI (3 * k + 1)), .ref b, .ref bl]) (by rw [nI_1]) ?_
    refine lw_sld hx hb hX hbl hbA hS (by omega) (by omega) d_LW_law_476 ?_
    refine lv_aload_n hx hb d_LW_law_477 rfl (lv_at hl 4 rfl) ?_
    refine lw_callS (y := y_LW_media) (bytes := b_LW_media) (maxL := 4) (ret := (some .int)) (hh := [(0, 9, 12, 13)]) (index := 80) (As := [.ref bl, .int (xs (3 * k + 1)), .ref out]) (rest := []) ⟨hx, hb, hml, hown, hG⟩ (c_LW_media_b l E h bl med S t hS0 hI out hfl (xs (3 * k + 1)) hbad) rfl rfl rfl (Nat.le_of_ble_eq_true rfl) (Nat.le_of_ble_eq_true rfl) (pay_in hG (gBW gm655)) (hG _ gm0) (hG _ gm653) (hG _ gm654) hdy_LW_media hK hZ hP hS hA rfl hl.1 rfl (Nat.le_of_ble_eq_true rfl) d_LW_law_478 ⟨Nat.le_trans (m := 60000) (by omega) lw_rc, Nat.le_trans (m := 2000000) (by omega) lw_rs⟩ (fun r h1 H locs hq9 hP hS => ?_)
    obtain ⟨rfl, e9⟩ := hq9
    rw [e9] at hP
    refine W.eq (g2 := F0 m 481 ls [.int 1]) rfl ?_
    have ed1 := hZ.edn hP
    have hM1 := hM
    have hA1 := hS0
    refine lv_istore (lv' := [(5, .int 1), (4, .int (nI (3 * k))), (0, .ref b), (1, .ref bl), (2, .ref md), (3, .ref out)]) hx hb d_LW_law_481 hl (by decide) rfl (fun ls hl => ?_)
    refine lv_aload_n hx hb d_LW_law_483 rfl (lv_at hl 4 rfl) ?_
    refine lv_aload_n hx hb d_LW_law_484 rfl (lv_at hl 2 rfl) ?_
    refine lv_iload hx hb d_LW_law_485 (lv_at hl 1 rfl) ?_
    refine lv_iconst (v := 1) hx hb d_LW_law_487 (by decide) ?_
    refine lv_iadd hx hb d_LW_law_488 ?_
    refine W.eq (g2 := F0 m 489 ls [.int (nI (3 * k + 1)), .ref b, .ref md]) (by rw [nI_1]) ?_
    refine lw_sld hx hb hX hbl hbA hS (by omega) (by omega) d_LW_law_489 ?_
    refine fh_callV (C := R_MD) (y := y_MD_media) (bytes := b_MD_media) (maxL := 2) (ret := (some .int)) (index := 82) (As := [.int (xs (3 * k + 1))]) (rest := []) ⟨hx, hb, hml, hown, hG⟩ (c_MD_media_b l E h md ad sc ar hM1 S t hR hI (xs (3 * k + 1)) hbad) (cwV 1 hG (gV gm869 gm870 gm871 gm8 gm872) rfl rfl rfl ⟨rfl, hdy_MD_media⟩ ⟨Nat.le_of_ble_eq_true rfl, Nat.le_of_ble_eq_true rfl⟩) C_MD.1 km_2 hK hZ hP hS hA rfl hl.1 rfl (Nat.le_of_ble_eq_true rfl) d_LW_law_490 ⟨Nat.le_trans (m := 60000) (by omega) lw_rc, Nat.le_trans (m := 2000000) (by omega) lw_rs⟩ (fun r h2 H locs hq9 hP hS => ?_)
    obtain ⟨rfl, sc2, ar2, hM2, hR2, c2, K2⟩ := hq9
    refine W.eq (g2 := F0 m 493 ls [.int 0]) rfl ?_
    have ed2 := hZ.edn hP
    have hA2 := hA1.keepM hM1 CC ed1 ed2 K2
    have hf9 := K2.outK CC hf0
    have km_3 : h2 md = some (.inr (7, [.int (sc2 0), .int (sc2 1), .int (sc2 2), .int (sc2 3), .int (sc2 4), .int (sc2 5), .int (sc2 6), .int (sc2 7), .int (sc2 8), .ref (ad 9), .int (sc2 10), .ref (ad 11), .ref (ad 12), .ref (ad 13), .int (sc2 14), .int (sc2 15), .ref (ad 16), .ref (ad 17), .ref (ad 18), .ref (ad 19), .ref (ad 20), .int (sc2 21), .ref (ad 22), .ref (ad 23), .int (sc2 24), .int (sc2 25), .int (sc2 26), .int (sc2 27), .int (sc2 28)])) := hM2.1
    refine lv_istore (lv' := [(6, .int 0), (5, .int 1), (4, .int (nI (3 * k))), (0, .ref b), (1, .ref bl), (2, .ref md), (3, .ref out)]) hx hb d_LW_law_493 hl (by decide) rfl (fun ls hl => ?_)
    refine lv_aload_n hx hb d_LW_law_495 rfl (lv_at hl 5 rfl) ?_
    refine fh_callV (C := R_MD) (y := y_MD_thrown) (bytes := b_MD_thrown) (maxL := 1) (ret := (some .int)) (index := 52) (As := []) (rest := []) ⟨hx, hb, hml, hown, hG⟩ (c_MD_thrown l E h2 md ad sc2 ar2 hM2) (cwV 0 hG (gV gm762 gm763 gm764 gm8 gm765) rfl rfl rfl ⟨rfl, hdy_MD_thrown⟩ ⟨Nat.le_of_ble_eq_true rfl, Nat.le_of_ble_eq_true rfl⟩) C_MD.1 km_3 hK hZ hP hS hA rfl hl.1 rfl (Nat.le_of_ble_eq_true rfl) d_LW_law_496 ⟨Nat.le_trans (m := 60000) (by omega) lw_rc, Nat.le_trans (m := 2000000) (by omega) lw_rs⟩ (fun r h1 H locs hq9 hP hS => ?_)
    obtain ⟨rfl, e9⟩ := hq9
    rw [e9] at hP
    refine W.eq (g2 := F0 m 499 ls [.int (sc2 0)]) rfl ?_
    refine W.eq (g2 := F0 m 499 ls [.int 1]) (by rw [c2]) ?_
    refine lv_iload hx hb d_LW_law_499 (lv_at hl 1 rfl) ?_
    refine lv_icmp_eq (tgt := 506) hx hb d_LW_law_501 (by decide) (fun c_4 => ?_) (fun c_4 => ?_)
    · skip
      refine lv_iload hx hb d_LW_law_506 (lv_at hl 1 rfl) ?_
      refine lv_if_ne (tgt := 523) hx hb d_LW_law_508 (by decide) (fun c_5 => ?_) (fun c_5 => ?_)
      · skip
        refine lv_goto (tgt := 694) hx hb d_LW_law_523 (by decide) ?_
        exact kk h2 (S) _ _ H locs _ _ ls ⟨hA2, hI, hNB, ⟨_, _, hM2, hR2⟩, _, hf9⟩ (by omega) (by omega) (by omega) (by omega) hP hS (lv_sub hl [2, 3, 4, 5, 6] rfl)
      · skip
        exact absurd c_5 (by decide)
    · skip
      exact absurd rfl c_4
  · skip
    refine lv_aload_n hx hb d_LW_law_470 rfl (lv_at hl 2 rfl) ?_
    refine lv_aload_n hx hb d_LW_law_471 rfl (lv_at hl 1 rfl) ?_
    refine lv_iload hx hb d_LW_law_472 (lv_at hl 0 rfl) ?_
    refine lv_iconst (v := 1) hx hb d_LW_law_474 (by decide) ?_
    refine lv_iadd hx hb d_LW_law_475 ?_
    refine W.eq (g2 := F0 m 476 ls [.int (nI (3 * k + 1)), .ref b, .ref bl]) (by rw [nI_1]) ?_
    refine lw_sld hx hb hX hbl hbA hS (by omega) (by omega) d_LW_law_476 ?_
    rw [en]
    refine lv_aload_n hx hb d_LW_law_477 rfl (lv_at hl 4 rfl) ?_
    refine lw_callS (y := y_LW_media) (bytes := b_LW_media) (maxL := 4) (ret := (some .int)) (hh := [(0, 9, 12, 13)]) (index := 80) (As := [.ref bl, .int (nI n), .ref out]) (rest := []) ⟨hx, hb, hml, hown, hG⟩ (c_LW_media l E h bl med S t hS0 hI out f0 hf0 CC.2.1 n hn) rfl rfl rfl (Nat.le_of_ble_eq_true rfl) (Nat.le_of_ble_eq_true rfl) (pay_in hG (gBW gm655)) (hG _ gm0) (hG _ gm653) (hG _ gm654) hdy_LW_media hK hZ hP hS hA rfl hl.1 rfl (Nat.le_of_ble_eq_true rfl) d_LW_law_478 ⟨Nat.le_trans (m := 60000) (by omega) lw_rc, Nat.le_trans (m := 2000000) (by omega) lw_rs⟩ (fun r h1 H locs hq9 hP hS => ?_)
    obtain ⟨rfl, ⟨f2, hf2, ef2⟩, hA1, hk1⟩ := hq9
    refine W.eq (g2 := F0 m 481 ls [.int 0]) rfl ?_
    have ed1 := hZ.edn hP
    have hM1 := hM.keepB CC hk1
    obtain ⟨dk_x_7, rq_x_7, sv_x_7, hB_x_7⟩ := hA1
    obtain ⟨bcs_x_7, qu_x_7, cs_x_7, kb_6, -⟩ := hB_x_7.cells
    have hA1 : ALy E h1 bl med S := ⟨dk_x_7, rq_x_7, sv_x_7, hB_x_7⟩
    have km_8 : h1 md = some (.inr (7, [.int (sc 0), .int (sc 1), .int (sc 2), .int (sc 3), .int (sc 4), .int (sc 5), .int (sc 6), .int (sc 7), .int (sc 8), .ref (ad 9), .int (sc 10), .ref (ad 11), .ref (ad 12), .ref (ad 13), .int (sc 14), .int (sc 15), .ref (ad 16), .ref (ad 17), .ref (ad 18), .ref (ad 19), .ref (ad 20), .int (sc 21), .ref (ad 22), .ref (ad 23), .int (sc 24), .int (sc 25), .int (sc 26), .int (sc 27), .int (sc 28)])) := hM1.1
    refine lv_istore (lv' := [(5, .int 0), (4, .int (nI (3 * k))), (0, .ref b), (1, .ref bl), (2, .ref md), (3, .ref out)]) hx hb d_LW_law_481 hl (by decide) rfl (fun ls hl => ?_)
    refine lv_aload_n hx hb d_LW_law_483 rfl (lv_at hl 4 rfl) ?_
    refine lv_aload_n hx hb d_LW_law_484 rfl (lv_at hl 2 rfl) ?_
    refine lv_iload hx hb d_LW_law_485 (lv_at hl 1 rfl) ?_
    refine lv_iconst (v := 1) hx hb d_LW_law_487 (by decide) ?_
    refine lv_iadd hx hb d_LW_law_488 ?_
    refine W.eq (g2 := F0 m 489 ls [.int (nI (3 * k + 1)), .ref b, .ref md]) (by rw [nI_1]) ?_
    refine lw_sld hx hb hX hbl hbA hS (by omega) (by omega) d_LW_law_489 ?_
    rw [en]
    refine fh_callV (C := R_MD) (y := y_MD_media) (bytes := b_MD_media) (maxL := 2) (ret := (some .int)) (index := 82) (As := [.int (nI n)]) (rest := []) ⟨hx, hb, hml, hown, hG⟩ (c_MD_media l E h1 md ad sc ar hM1 S t hR hI n hn) (cwV 1 hG (gV gm869 gm870 gm871 gm8 gm872) rfl rfl rfl ⟨rfl, hdy_MD_media⟩ ⟨Nat.le_of_ble_eq_true rfl, Nat.le_of_ble_eq_true rfl⟩) C_MD.1 km_8 hK hZ hP hS hA rfl hl.1 rfl (Nat.le_of_ble_eq_true rfl) d_LW_law_490 ⟨Nat.le_trans (m := 60000) (by omega) lw_rc, Nat.le_trans (m := 2000000) (by omega) lw_rs⟩ (fun r h2 H locs hq9 hP hS => ?_)
    obtain ⟨rfl, sc2, ar2, hM2, hR2, c2, K2⟩ := hq9
    refine W.eq (g2 := F0 m 493 ls [.int (S.mf n)]) rfl ?_
    have ed2 := hZ.edn hP
    have hA2 := hA1.keepM hM1 CC ed1 ed2 K2
    have hf9 := K2.outK CC hf2
    have km_9 : h2 md = some (.inr (7, [.int (sc2 0), .int (sc2 1), .int (sc2 2), .int (sc2 3), .int (sc2 4), .int (sc2 5), .int (sc2 6), .int (sc2 7), .int (sc2 8), .ref (ad 9), .int (sc2 10), .ref (ad 11), .ref (ad 12), .ref (ad 13), .int (sc2 14), .int (sc2 15), .ref (ad 16), .ref (ad 17), .ref (ad 18), .ref (ad 19), .ref (ad 20), .int (sc2 21), .ref (ad 22), .ref (ad 23), .int (sc2 24), .int (sc2 25), .int (sc2 26), .int (sc2 27), .int (sc2 28)])) := hM2.1
    refine lv_istore (lv' := [(6, .int (S.mf n)), (5, .int 0), (4, .int (nI (3 * k))), (0, .ref b), (1, .ref bl), (2, .ref md), (3, .ref out)]) hx hb d_LW_law_493 hl (by decide) rfl (fun ls hl => ?_)
    refine lv_aload_n hx hb d_LW_law_495 rfl (lv_at hl 5 rfl) ?_
    refine fh_callV (C := R_MD) (y := y_MD_thrown) (bytes := b_MD_thrown) (maxL := 1) (ret := (some .int)) (index := 52) (As := []) (rest := []) ⟨hx, hb, hml, hown, hG⟩ (c_MD_thrown l E h2 md ad sc2 ar2 hM2) (cwV 0 hG (gV gm762 gm763 gm764 gm8 gm765) rfl rfl rfl ⟨rfl, hdy_MD_thrown⟩ ⟨Nat.le_of_ble_eq_true rfl, Nat.le_of_ble_eq_true rfl⟩) C_MD.1 km_9 hK hZ hP hS hA rfl hl.1 rfl (Nat.le_of_ble_eq_true rfl) d_LW_law_496 ⟨Nat.le_trans (m := 60000) (by omega) lw_rc, Nat.le_trans (m := 2000000) (by omega) lw_rs⟩ (fun r h1 H locs hq9 hP hS => ?_)
    obtain ⟨rfl, e9⟩ := hq9
    rw [e9] at hP
    refine W.eq (g2 := F0 m 499 ls [.int (sc2 0)]) rfl ?_
    refine W.eq (g2 := F0 m 499 ls [.int 0]) (by rw [c2]) ?_
    refine lv_iload hx hb d_LW_law_499 (lv_at hl 1 rfl) ?_
    refine lv_icmp_eq (tgt := 506) hx hb d_LW_law_501 (by decide) (fun c_10 => ?_) (fun c_10 => ?_)
    · skip
      refine lv_iload hx hb d_LW_law_506 (lv_at hl 1 rfl) ?_
      refine lv_if_ne (tgt := 523) hx hb d_LW_law_508 (by decide) (fun c_11 => ?_) (fun c_11 => ?_)
      · skip
        exact absurd rfl c_11
      · skip
        refine lv_aload_n hx hb d_LW_law_511 rfl (lv_at hl 6 rfl) ?_
        refine lv_iconst (v := 0) hx hb d_LW_law_512 (by decide) ?_
        refine fh_lald hx hb hK hP 1 hf9 rfl (vp_in_nI (n := 0) (N := 1) (by decide) (by decide)) d_LW_law_513 ?_
        refine lv_iload hx hb d_LW_law_514 (lv_at hl 0 rfl) ?_
        refine lv_i2l hx hb d_LW_law_516 rfl ?_
        refine lw_lcmp hx hb (by rw [show (0 : Int32).toNatClampNeg = 0 by decide]; exact ef2) d_LW_law_517 ?_
        refine lv_if_eq (tgt := 523) hx hb d_LW_law_518 (by decide) (fun c_12 => ?_) (fun c_12 => ?_)
        · skip
          refine lv_goto (tgt := 694) hx hb d_LW_law_523 (by decide) ?_
          exact kk h2 (S) _ _ H locs _ _ ls ⟨hA2, hI, hNB, ⟨_, _, hM2, hR2⟩, _, hf9⟩ (by omega) (by omega) (by omega) (by omega) hP hS (lv_sub hl [2, 3, 4, 5, 6] rfl)
        · skip
          exact absurd rfl c_12
    · skip
      exact absurd rfl c_10

set_option maxHeartbeats 800000 in
set_option maxRecDepth 100000 in
theorem law_c9 {p : Program} {l : Launch} {e : Env} {s : State} {m : MethodId} {args : Array Value} {below : List Frame} {meth : Method} {c : Code} {A : Nat → Prop} {E : fh_E} {b L : Nat} {xs : Nat → Int32} {Q : State → Prop} (C0 : LCt p l s m args c A E b L xs) {bl med md out k : Nat} {ad : Nat → Nat} (CC : CNt med md out ad) (hk3 : 3 * k + 3 ≤ L) (hL : L ≤ 1536) {h : fh_H} {S : mS} {t N : Nat} (HS : LSt E h bl med md out ad S t N) (ht : t ≤ 1640 * k) (hN : N ≤ 11 * k) {H : Heap} {locs : List Loc} {cells slots : Nat} (hc : cells ≤ 30 + 90 * k) (hs : slots ≤ 900 + 3362 * k) {ls : Array Slot} (hP : fh_P E.1 vwCl A h H) (hS : va_S A s.heap H locs) (hl : lv_has ls 7 [(4, .int (nI (3 * k))), (0, .ref b), (1, .ref bl), (2, .ref md), (3, .ref out)])
    (kk : ∀ (h2 : fh_H) (S2 : mS) (t2 N2 : Nat) (H2 : Heap) (locs2 : List Loc) (c2 s2 : Nat) (ls2 : Array Slot), LSt E h2 bl med md out ad S2 t2 N2 → t2 ≤ 1640 * (k + 1) → N2 ≤ 11 * (k + 1) → c2 ≤ 30 + 90 * (k + 1) → s2 ≤ 900 + 3362 * (k + 1) → fh_P E.1 vwCl A h2 H2 → va_S A s.heap H2 locs2 → lv_has ls2 7 [(4, .int (nI (3 * k))), (0, .ref b), (1, .ref bl), (2, .ref md), (3, .ref out)] → W p l e room_1 s m args below meth c H2 locs2 c2 s2 Q (F0 m 694 ls2 [])) : W p l e room_1 s m args below meth c H locs cells slots Q (F0 m 526 ls []) := by
  obtain ⟨hx, hb, hml, hown, hG, hK, hZ, hA, hfl, hX, hbl, hbA⟩ := C0
  obtain ⟨hS0, hI, hNB, ⟨sc, ar, hM, hR⟩, f0, hf0⟩ := HS
  have ed0 := hZ.edn hP
  obtain ⟨dk_x_1, rq_x_1, sv_x_1, hB_x_1⟩ := hS0
  obtain ⟨bcs_x_1, qu_x_1, cs_x_1, kb0, -⟩ := hB_x_1.cells
  have hS0 : ALy E h bl med S := ⟨dk_x_1, rq_x_1, sv_x_1, hB_x_1⟩
  have km_2 : h md = some (.inr (7, [.int (sc 0), .int (sc 1), .int (sc 2), .int (sc 3), .int (sc 4), .int (sc 5), .int (sc 6), .int (sc 7), .int (sc 8), .ref (ad 9), .int (sc 10), .ref (ad 11), .ref (ad 12), .ref (ad 13), .int (sc 14), .int (sc 15), .ref (ad 16), .ref (ad 17), .ref (ad 18), .ref (ad 19), .ref (ad 20), .int (sc 21), .ref (ad 22), .ref (ad 23), .int (sc 24), .int (sc 25), .int (sc 26), .int (sc 27), .int (sc 28)])) := hM.1
  rcases blk_or (xs (3 * k + 1)) with hbad | ⟨n, hn, en⟩
  · skip
    refine lv_aload_n hx hb d_LW_law_526 rfl (lv_at hl 2 rfl) ?_
    refine lv_aload_n hx hb d_LW_law_527 rfl (lv_at hl 1 rfl) ?_
    refine lv_iload hx hb d_LW_law_528 (lv_at hl 0 rfl) ?_
    refine lv_iconst (v := 1) hx hb d_LW_law_530 (by decide) ?_
    refine lv_iadd hx hb d_LW_law_531 ?_
    refine W.eq (g2 := F0 m 532 ls [.int (nI (3 * k + 1)), .ref b, .ref bl]) (by rw [nI_1]) ?_
    refine lw_sld hx hb hX hbl hbA hS (by omega) (by omega) d_LW_law_532 ?_
    refine lv_aload_n hx hb d_LW_law_533 rfl (lv_at hl 4 rfl) ?_
    refine lw_callS (y := y_LW_buffer) (bytes := b_LW_buffer) (maxL := 4) (ret := (some .int)) (hh := [(0, 9, 12, 13)]) (index := 83) (As := [.ref bl, .int (xs (3 * k + 1)), .ref out]) (rest := []) ⟨hx, hb, hml, hown, hG⟩ (c_LW_buffer_b l E h bl med S t hS0 hI out hfl (xs (3 * k + 1)) hbad) rfl rfl rfl (Nat.le_of_ble_eq_true rfl) (Nat.le_of_ble_eq_true rfl) (pay_in hG (gBW gm662)) (hG _ gm0) (hG _ gm660) (hG _ gm661) hdy_LW_buffer hK hZ hP hS hA rfl hl.1 rfl (Nat.le_of_ble_eq_true rfl) d_LW_law_534 ⟨Nat.le_trans (m := 60000) (by omega) lw_rc, Nat.le_trans (m := 2000000) (by omega) lw_rs⟩ (fun r h1 H locs hq9 hP hS => ?_)
    obtain ⟨rfl, e9⟩ := hq9
    rw [e9] at hP
    refine W.eq (g2 := F0 m 537 ls [.int 1]) rfl ?_
    have ed1 := hZ.edn hP
    have hM1 := hM
    have hA1 := hS0
    refine lv_istore (lv' := [(5, .int 1), (4, .int (nI (3 * k))), (0, .ref b), (1, .ref bl), (2, .ref md), (3, .ref out)]) hx hb d_LW_law_537 hl (by decide) rfl (fun ls hl => ?_)
    refine lv_aload_n hx hb d_LW_law_539 rfl (lv_at hl 4 rfl) ?_
    refine lv_aload_n hx hb d_LW_law_540 rfl (lv_at hl 2 rfl) ?_
    refine lv_iload hx hb d_LW_law_541 (lv_at hl 1 rfl) ?_
    refine lv_iconst (v := 1) hx hb d_LW_law_543 (by decide) ?_
    refine lv_iadd hx hb d_LW_law_544 ?_
    refine W.eq (g2 := F0 m 545 ls [.int (nI (3 * k + 1)), .ref b, .ref md]) (by rw [nI_1]) ?_
    refine lw_sld hx hb hX hbl hbA hS (by omega) (by omega) d_LW_law_545 ?_
    refine fh_callV (C := R_MD) (y := y_MD_buffer) (bytes := b_MD_buffer) (maxL := 3) (ret := (some .int)) (index := 85) (As := [.int (xs (3 * k + 1))]) (rest := []) ⟨hx, hb, hml, hown, hG⟩ (c_MD_buffer_b l E h md ad sc ar hM1 S t hR hI (xs (3 * k + 1)) hbad) (cwV 1 hG (gV gm873 gm874 gm875 gm8 gm876) rfl rfl rfl ⟨rfl, hdy_MD_buffer⟩ ⟨Nat.le_of_ble_eq_true rfl, Nat.le_of_ble_eq_true rfl⟩) C_MD.1 km_2 hK hZ hP hS hA rfl hl.1 rfl (Nat.le_of_ble_eq_true rfl) d_LW_law_546 ⟨Nat.le_trans (m := 60000) (by omega) lw_rc, Nat.le_trans (m := 2000000) (by omega) lw_rs⟩ (fun r h2 H locs hq9 hP hS => ?_)
    obtain ⟨rfl, sc2, ar2, hM2, hR2, c2, K2⟩ := hq9
    refine W.eq (g2 := F0 m 549 ls [.int 0]) rfl ?_
    have ed2 := hZ.edn hP
    have hA2 := hA1.keepM hM1 CC ed1 ed2 K2
    have hf9 := K2.outK CC hf0
    have km_3 : h2 md = some (.inr (7, [.int (sc2 0), .int (sc2 1), .int (sc2 2), .int (sc2 3), .int (sc2 4), .int (sc2 5), .int (sc2 6), .int (sc2 7), .int (sc2 8), .ref (ad 9), .int (sc2 10), .ref (ad 11), .ref (ad 12), .ref (ad 13), .int (sc2 14), .int (sc2 15), .ref (ad 16), .ref (ad 17), .ref (ad 18), .ref (ad 19), .ref (ad 20), .int (sc2 21), .ref (ad 22), .ref (ad 23), .int (sc2 24), .int (sc2 25), .int (sc2 26), .int (sc2 27), .int (sc2 28)])) := hM2.1
    refine lv_istore (lv' := [(6, .int 0), (5, .int 1), (4, .int (nI (3 * k))), (0, .ref b), (1, .ref bl), (2, .ref md), (3, .ref out)]) hx hb d_LW_law_549 hl (by decide) rfl (fun ls hl => ?_)
    refine lv_aload_n hx hb d_LW_law_551 rfl (lv_at hl 5 rfl) ?_
    refine fh_callV (C := R_MD) (y := y_MD_thrown) (bytes := b_MD_thrown) (maxL := 1) (ret := (some .int)) (index := 52) (As := []) (rest := []) ⟨hx, hb, hml, hown, hG⟩ (c_MD_thrown l E h2 md ad sc2 ar2 hM2) (cwV 0 hG (gV gm762 gm763 gm764 gm8 gm765) rfl rfl rfl ⟨rfl, hdy_MD_thrown⟩ ⟨Nat.le_of_ble_eq_true rfl, Nat.le_of_ble_eq_true rfl⟩) C_MD.1 km_3 hK hZ hP hS hA rfl hl.1 rfl (Nat.le_of_ble_eq_true rfl) d_LW_law_552 ⟨Nat.le_trans (m := 60000) (by omega) lw_rc, Nat.le_trans (m := 2000000) (by omega) lw_rs⟩ (fun r h1 H locs hq9 hP hS => ?_)
    obtain ⟨rfl, e9⟩ := hq9
    rw [e9] at hP
    refine W.eq (g2 := F0 m 555 ls [.int (sc2 0)]) rfl ?_
    refine W.eq (g2 := F0 m 555 ls [.int 1]) (by rw [c2]) ?_
    refine lv_iload hx hb d_LW_law_555 (lv_at hl 1 rfl) ?_
    refine lv_icmp_eq (tgt := 562) hx hb d_LW_law_557 (by decide) (fun c_4 => ?_) (fun c_4 => ?_)
    · skip
      refine lv_iload hx hb d_LW_law_562 (lv_at hl 1 rfl) ?_
      refine lv_if_ne (tgt := 579) hx hb d_LW_law_564 (by decide) (fun c_5 => ?_) (fun c_5 => ?_)
      · skip
        refine lv_goto (tgt := 694) hx hb d_LW_law_579 (by decide) ?_
        exact kk h2 (S) _ _ H locs _ _ ls ⟨hA2, hI, hNB, ⟨_, _, hM2, hR2⟩, _, hf9⟩ (by omega) (by omega) (by omega) (by omega) hP hS (lv_sub hl [2, 3, 4, 5, 6] rfl)
      · skip
        exact absurd c_5 (by decide)
    · skip
      exact absurd rfl c_4
  · skip
    refine lv_aload_n hx hb d_LW_law_526 rfl (lv_at hl 2 rfl) ?_
    refine lv_aload_n hx hb d_LW_law_527 rfl (lv_at hl 1 rfl) ?_
    refine lv_iload hx hb d_LW_law_528 (lv_at hl 0 rfl) ?_
    refine lv_iconst (v := 1) hx hb d_LW_law_530 (by decide) ?_
    refine lv_iadd hx hb d_LW_law_531 ?_
    refine W.eq (g2 := F0 m 532 ls [.int (nI (3 * k + 1)), .ref b, .ref bl]) (by rw [nI_1]) ?_
    refine lw_sld hx hb hX hbl hbA hS (by omega) (by omega) d_LW_law_532 ?_
    rw [en]
    refine lv_aload_n hx hb d_LW_law_533 rfl (lv_at hl 4 rfl) ?_
    refine lw_callS (y := y_LW_buffer) (bytes := b_LW_buffer) (maxL := 4) (ret := (some .int)) (hh := [(0, 9, 12, 13)]) (index := 83) (As := [.ref bl, .int (nI n), .ref out]) (rest := []) ⟨hx, hb, hml, hown, hG⟩ (c_LW_buffer l E h bl med S t hS0 hI out f0 hf0 CC.2.1 n hn) rfl rfl rfl (Nat.le_of_ble_eq_true rfl) (Nat.le_of_ble_eq_true rfl) (pay_in hG (gBW gm662)) (hG _ gm0) (hG _ gm660) (hG _ gm661) hdy_LW_buffer hK hZ hP hS hA rfl hl.1 rfl (Nat.le_of_ble_eq_true rfl) d_LW_law_534 ⟨Nat.le_trans (m := 60000) (by omega) lw_rc, Nat.le_trans (m := 2000000) (by omega) lw_rs⟩ (fun r h1 H locs hq9 hP hS => ?_)
    obtain ⟨rfl, ⟨f2, hf2, ef2⟩, hA1, hk1⟩ := hq9
    refine W.eq (g2 := F0 m 537 ls [.int 0]) rfl ?_
    have ed1 := hZ.edn hP
    have hM1 := hM.keepB CC hk1
    obtain ⟨dk_x_7, rq_x_7, sv_x_7, hB_x_7⟩ := hA1
    obtain ⟨bcs_x_7, qu_x_7, cs_x_7, kb_6, -⟩ := hB_x_7.cells
    have hA1 : ALy E h1 bl med S := ⟨dk_x_7, rq_x_7, sv_x_7, hB_x_7⟩
    have km_8 : h1 md = some (.inr (7, [.int (sc 0), .int (sc 1), .int (sc 2), .int (sc 3), .int (sc 4), .int (sc 5), .int (sc 6), .int (sc 7), .int (sc 8), .ref (ad 9), .int (sc 10), .ref (ad 11), .ref (ad 12), .ref (ad 13), .int (sc 14), .int (sc 15), .ref (ad 16), .ref (ad 17), .ref (ad 18), .ref (ad 19), .ref (ad 20), .int (sc 21), .ref (ad 22), .ref (ad 23), .int (sc 24), .int (sc 25), .int (sc 26), .int (sc 27), .int (sc 28)])) := hM1.1
    refine lv_istore (lv' := [(5, .int 0), (4, .int (nI (3 * k))), (0, .ref b), (1, .ref bl), (2, .ref md), (3, .ref out)]) hx hb d_LW_law_537 hl (by decide) rfl (fun ls hl => ?_)
    refine lv_aload_n hx hb d_LW_law_539 rfl (lv_at hl 4 rfl) ?_
    refine lv_aload_n hx hb d_LW_law_540 rfl (lv_at hl 2 rfl) ?_
    refine lv_iload hx hb d_LW_law_541 (lv_at hl 1 rfl) ?_
    refine lv_iconst (v := 1) hx hb d_LW_law_543 (by decide) ?_
    refine lv_iadd hx hb d_LW_law_544 ?_
    refine W.eq (g2 := F0 m 545 ls [.int (nI (3 * k + 1)), .ref b, .ref md]) (by rw [nI_1]) ?_
    refine lw_sld hx hb hX hbl hbA hS (by omega) (by omega) d_LW_law_545 ?_
    rw [en]
    refine fh_callV (C := R_MD) (y := y_MD_buffer) (bytes := b_MD_buffer) (maxL := 3) (ret := (some .int)) (index := 85) (As := [.int (nI n)]) (rest := []) ⟨hx, hb, hml, hown, hG⟩ ((c_MD_buffer l E h1 md ad sc ar hM1 S t hR hI n hn).mono (post' := fun r h8 => r = some (.int (bfV S (nI n))) ∧ ∃ sc1 ar1, MDs E h8 md ad sc1 ar1 ∧ RM sc1 ar1 S ∧ sc1 0 = 0 ∧ KM h1 h8 md ad) (fun _ _ z => z)) (cwV 1 hG (gV gm873 gm874 gm875 gm8 gm876) rfl rfl rfl ⟨rfl, hdy_MD_buffer⟩ ⟨Nat.le_of_ble_eq_true rfl, Nat.le_of_ble_eq_true rfl⟩) C_MD.1 km_8 hK hZ hP hS hA rfl hl.1 rfl (Nat.le_of_ble_eq_true rfl) d_LW_law_546 ⟨Nat.le_trans (m := 60000) (by omega) lw_rc, Nat.le_trans (m := 2000000) (by omega) lw_rs⟩ (fun r h2 H locs hq9 hP hS => ?_)
    obtain ⟨rfl, sc2, ar2, hM2, hR2, c2, K2⟩ := hq9
    refine W.eq (g2 := F0 m 549 ls [.int (bfV S (nI n))]) rfl ?_
    have ed2 := hZ.edn hP
    have hA2 := hA1.keepM hM1 CC ed1 ed2 K2
    have hf9 := K2.outK CC hf2
    have km_9 : h2 md = some (.inr (7, [.int (sc2 0), .int (sc2 1), .int (sc2 2), .int (sc2 3), .int (sc2 4), .int (sc2 5), .int (sc2 6), .int (sc2 7), .int (sc2 8), .ref (ad 9), .int (sc2 10), .ref (ad 11), .ref (ad 12), .ref (ad 13), .int (sc2 14), .int (sc2 15), .ref (ad 16), .ref (ad 17), .ref (ad 18), .ref (ad 19), .ref (ad 20), .int (sc2 21), .ref (ad 22), .ref (ad 23), .int (sc2 24), .int (sc2 25), .int (sc2 26), .int (sc2 27), .int (sc2 28)])) := hM2.1
    refine lv_istore (lv' := [(6, .int (bfV S (nI n))), (5, .int 0), (4, .int (nI (3 * k))), (0, .ref b), (1, .ref bl), (2, .ref md), (3, .ref out)]) hx hb d_LW_law_549 hl (by decide) rfl (fun ls hl => ?_)
    refine lv_aload_n hx hb d_LW_law_551 rfl (lv_at hl 5 rfl) ?_
    refine fh_callV (C := R_MD) (y := y_MD_thrown) (bytes := b_MD_thrown) (maxL := 1) (ret := (some .int)) (index := 52) (As := []) (rest := []) ⟨hx, hb, hml, hown, hG⟩ (c_MD_thrown l E h2 md ad sc2 ar2 hM2) (cwV 0 hG (gV gm762 gm763 gm764 gm8 gm765) rfl rfl rfl ⟨rfl, hdy_MD_thrown⟩ ⟨Nat.le_of_ble_eq_true rfl, Nat.le_of_ble_eq_true rfl⟩) C_MD.1 km_9 hK hZ hP hS hA rfl hl.1 rfl (Nat.le_of_ble_eq_true rfl) d_LW_law_552 ⟨Nat.le_trans (m := 60000) (by omega) lw_rc, Nat.le_trans (m := 2000000) (by omega) lw_rs⟩ (fun r h1 H locs hq9 hP hS => ?_)
    obtain ⟨rfl, e9⟩ := hq9
    rw [e9] at hP
    refine W.eq (g2 := F0 m 555 ls [.int (sc2 0)]) rfl ?_
    refine W.eq (g2 := F0 m 555 ls [.int 0]) (by rw [c2]) ?_
    refine lv_iload hx hb d_LW_law_555 (lv_at hl 1 rfl) ?_
    refine lv_icmp_eq (tgt := 562) hx hb d_LW_law_557 (by decide) (fun c_10 => ?_) (fun c_10 => ?_)
    · skip
      refine lv_iload hx hb d_LW_law_562 (lv_at hl 1 rfl) ?_
      refine lv_if_ne (tgt := 579) hx hb d_LW_law_564 (by decide) (fun c_11 => ?_) (fun c_11 => ?_)
      · skip
        exact absurd rfl c_11
      · skip
        refine lv_aload_n hx hb d_LW_law_567 rfl (lv_at hl 6 rfl) ?_
        refine lv_iconst (v := 0) hx hb d_LW_law_568 (by decide) ?_
        refine fh_lald hx hb hK hP 1 hf9 rfl (vp_in_nI (n := 0) (N := 1) (by decide) (by decide)) d_LW_law_569 ?_
        refine lv_iload hx hb d_LW_law_570 (lv_at hl 0 rfl) ?_
        refine lv_i2l hx hb d_LW_law_572 rfl ?_
        refine lw_lcmp hx hb (by rw [show (0 : Int32).toNatClampNeg = 0 by decide]; exact ef2) d_LW_law_573 ?_
        refine lv_if_eq (tgt := 579) hx hb d_LW_law_574 (by decide) (fun c_12 => ?_) (fun c_12 => ?_)
        · skip
          refine lv_goto (tgt := 694) hx hb d_LW_law_579 (by decide) ?_
          exact kk h2 (S) _ _ H locs _ _ ls ⟨hA2, hI, hNB, ⟨_, _, hM2, hR2⟩, _, hf9⟩ (by omega) (by omega) (by omega) (by omega) hP hS (lv_sub hl [2, 3, 4, 5, 6] rfl)
        · skip
          exact absurd rfl c_12
    · skip
      exact absurd rfl c_10

set_option maxHeartbeats 800000 in
set_option maxRecDepth 100000 in
theorem law_c4 {p : Program} {l : Launch} {e : Env} {s : State} {m : MethodId} {args : Array Value} {below : List Frame} {meth : Method} {c : Code} {A : Nat → Prop} {E : fh_E} {b L : Nat} {xs : Nat → Int32} {Q : State → Prop} (C0 : LCt p l s m args c A E b L xs) {bl med md out k : Nat} {ad : Nat → Nat} (CC : CNt med md out ad) (hk3 : 3 * k + 3 ≤ L) (hL : L ≤ 1536) {h : fh_H} {S : mS} {t N : Nat} (HS : LSt E h bl med md out ad S t N) (ht : t ≤ 1640 * k) (hN : N ≤ 11 * k) {H : Heap} {locs : List Loc} {cells slots : Nat} (hc : cells ≤ 30 + 90 * k) (hs : slots ≤ 900 + 3362 * k) {ls : Array Slot} (hP : fh_P E.1 vwCl A h H) (hS : va_S A s.heap H locs) (hl : lv_has ls 7 [(4, .int (nI (3 * k))), (0, .ref b), (1, .ref bl), (2, .ref md), (3, .ref out)])
    (kk : ∀ (h2 : fh_H) (S2 : mS) (t2 N2 : Nat) (H2 : Heap) (locs2 : List Loc) (c2 s2 : Nat) (ls2 : Array Slot), LSt E h2 bl med md out ad S2 t2 N2 → t2 ≤ 1640 * (k + 1) → N2 ≤ 11 * (k + 1) → c2 ≤ 30 + 90 * (k + 1) → s2 ≤ 900 + 3362 * (k + 1) → fh_P E.1 vwCl A h2 H2 → va_S A s.heap H2 locs2 → lv_has ls2 7 [(4, .int (nI (3 * k))), (0, .ref b), (1, .ref bl), (2, .ref md), (3, .ref out)] → W p l e room_1 s m args below meth c H2 locs2 c2 s2 Q (F0 m 694 ls2 [])) : W p l e room_1 s m args below meth c H locs cells slots Q (F0 m 332 ls []) := by
  obtain ⟨hx, hb, hml, hown, hG, hK, hZ, hA, hfl, hX, hbl, hbA⟩ := C0
  obtain ⟨hS0, hI, hNB, ⟨sc, ar, hM, hR⟩, f0, hf0⟩ := HS
  have ed0 := hZ.edn hP
  obtain ⟨dk_x_1, rq_x_1, sv_x_1, hB_x_1⟩ := hS0
  obtain ⟨bcs_x_1, qu_x_1, cs_x_1, kb0, -⟩ := hB_x_1.cells
  have hS0 : ALy E h bl med S := ⟨dk_x_1, rq_x_1, sv_x_1, hB_x_1⟩
  have km_2 : h md = some (.inr (7, [.int (sc 0), .int (sc 1), .int (sc 2), .int (sc 3), .int (sc 4), .int (sc 5), .int (sc 6), .int (sc 7), .int (sc 8), .ref (ad 9), .int (sc 10), .ref (ad 11), .ref (ad 12), .ref (ad 13), .int (sc 14), .int (sc 15), .ref (ad 16), .ref (ad 17), .ref (ad 18), .ref (ad 19), .ref (ad 20), .int (sc 21), .ref (ad 22), .ref (ad 23), .int (sc 24), .int (sc 25), .int (sc 26), .int (sc 27), .int (sc 28)])) := hM.1
  refine lv_aload_n hx hb d_LW_law_332 rfl (lv_at hl 2 rfl) ?_
  refine fh_callV (C := R_BL) (y := y_BL_drain) (bytes := b_BL_drain) (maxL := 3) (ret := (some .int)) (index := 66) (As := []) (rest := []) ⟨hx, hb, hml, hown, hG⟩ (c_BL_drain l E h bl med S t hS0 hI) (cwV 0 hG (gV gm152 gm153 gm154 gm1 gm155) rfl rfl rfl ⟨rfl, hdy_BL_drain⟩ ⟨Nat.le_of_ble_eq_true rfl, Nat.le_of_ble_eq_true rfl⟩) C_BL.1 kb0 hK hZ hP hS hA rfl hl.1 rfl (Nat.le_of_ble_eq_true rfl) d_LW_law_333 ⟨Nat.le_trans (m := 60000) (by omega) lw_rc, Nat.le_trans (m := 2000000) (by omega) lw_rs⟩ (fun r h1 H locs hq9 hP hS => ?_)
  obtain ⟨rfl, hA1, hk1⟩ := hq9
  refine W.eq (g2 := F0 m 336 ls [.int ((drM 41 S).tm - S.tm)]) rfl ?_
  have ed1 := hZ.edn hP
  have hM1 := hM.keepB CC (hk1.out out)
  have hf1 := hk1 out _ hf0 CC.2.1 trivial
  obtain ⟨dk_x_4, rq_x_4, sv_x_4, hB_x_4⟩ := hA1
  obtain ⟨bcs_x_4, qu_x_4, cs_x_4, kb_3, -⟩ := hB_x_4.cells
  have hA1 : ALy E h1 bl med (drM 41 S) := ⟨dk_x_4, rq_x_4, sv_x_4, hB_x_4⟩
  have km_5 : h1 md = some (.inr (7, [.int (sc 0), .int (sc 1), .int (sc 2), .int (sc 3), .int (sc 4), .int (sc 5), .int (sc 6), .int (sc 7), .int (sc 8), .ref (ad 9), .int (sc 10), .ref (ad 11), .ref (ad 12), .ref (ad 13), .int (sc 14), .int (sc 15), .ref (ad 16), .ref (ad 17), .ref (ad 18), .ref (ad 19), .ref (ad 20), .int (sc 21), .ref (ad 22), .ref (ad 23), .int (sc 24), .int (sc 25), .int (sc 26), .int (sc 27), .int (sc 28)])) := hM1.1
  refine lv_aload_n hx hb d_LW_law_336 rfl (lv_at hl 3 rfl) ?_
  refine fh_callV (C := R_MD) (y := y_MD_drain) (bytes := b_MD_drain) (maxL := 2) (ret := (some .int)) (index := 69) (As := []) (rest := [.int ((drM 41 S).tm - S.tm)]) ⟨hx, hb, hml, hown, hG⟩ (c_MD_drain l E h1 md ad sc ar hM1 S t hR hI) (cwV 0 hG (gV gm849 gm850 gm851 gm8 gm852) rfl rfl rfl ⟨rfl, hdy_MD_drain⟩ ⟨Nat.le_of_ble_eq_true rfl, Nat.le_of_ble_eq_true rfl⟩) C_MD.1 km_5 hK hZ hP hS hA rfl hl.1 rfl (Nat.le_of_ble_eq_true rfl) d_LW_law_337 ⟨Nat.le_trans (m := 60000) (by omega) lw_rc, Nat.le_trans (m := 2000000) (by omega) lw_rs⟩ (fun r h2 H locs hq9 hP hS => ?_)
  obtain ⟨rfl, sc2, ar2, hM2, hR2, c2, K2⟩ := hq9
  refine W.eq (g2 := F0 m 340 ls [.int ((drM 41 S).tm - S.tm), .int ((drM 41 S).tm - S.tm)]) rfl ?_
  have ed2 := hZ.edn hP
  have hA2 := hA1.keepM hM1 CC ed1 ed2 K2
  have hf9 := K2.outK CC hf1
  refine lv_icmp_eq (tgt := 694) hx hb d_LW_law_340 (by decide) (fun c_6 => ?_) (fun c_6 => ?_)
  · skip
    exact kk h2 (drM 41 S) _ _ H locs _ _ ls ⟨hA2, (Inv.dr 41 hI), (NB.dr 41 hNB), ⟨_, _, hM2, hR2⟩, _, hf9⟩ (by omega) (by omega) (by omega) (by omega) hP hS (lv_sub hl [0, 1, 2, 3, 4] rfl)
  · skip
    exact absurd rfl c_6

set_option maxHeartbeats 800000 in
set_option maxRecDepth 100000 in
theorem law_c6 {p : Program} {l : Launch} {e : Env} {s : State} {m : MethodId} {args : Array Value} {below : List Frame} {meth : Method} {c : Code} {A : Nat → Prop} {E : fh_E} {b L : Nat} {xs : Nat → Int32} {Q : State → Prop} (C0 : LCt p l s m args c A E b L xs) {bl med md out k : Nat} {ad : Nat → Nat} (CC : CNt med md out ad) (hk3 : 3 * k + 3 ≤ L) (hL : L ≤ 1536) {h : fh_H} {S : mS} {t N : Nat} (HS : LSt E h bl med md out ad S t N) (ht : t ≤ 1640 * k) (hN : N ≤ 11 * k) {H : Heap} {locs : List Loc} {cells slots : Nat} (hc : cells ≤ 30 + 90 * k) (hs : slots ≤ 900 + 3362 * k) {ls : Array Slot} (hP : fh_P E.1 vwCl A h H) (hS : va_S A s.heap H locs) (hl : lv_has ls 7 [(4, .int (nI (3 * k))), (0, .ref b), (1, .ref bl), (2, .ref md), (3, .ref out)])
    (kk : ∀ (h2 : fh_H) (S2 : mS) (t2 N2 : Nat) (H2 : Heap) (locs2 : List Loc) (c2 s2 : Nat) (ls2 : Array Slot), LSt E h2 bl med md out ad S2 t2 N2 → t2 ≤ 1640 * (k + 1) → N2 ≤ 11 * (k + 1) → c2 ≤ 30 + 90 * (k + 1) → s2 ≤ 900 + 3362 * (k + 1) → fh_P E.1 vwCl A h2 H2 → va_S A s.heap H2 locs2 → lv_has ls2 7 [(4, .int (nI (3 * k))), (0, .ref b), (1, .ref bl), (2, .ref md), (3, .ref out)] → W p l e room_1 s m args below meth c H2 locs2 c2 s2 Q (F0 m 694 ls2 [])) : W p l e room_1 s m args below meth c H locs cells slots Q (F0 m 401 ls []) := by
  obtain ⟨hx, hb, hml, hown, hG, hK, hZ, hA, hfl, hX, hbl, hbA⟩ := C0
  obtain ⟨hS0, hI, hNB, ⟨sc, ar, hM, hR⟩, f0, hf0⟩ := HS
  have ed0 := hZ.edn hP
  obtain ⟨dk_x_1, rq_x_1, sv_x_1, hB_x_1⟩ := hS0
  obtain ⟨bcs_x_1, qu_x_1, cs_x_1, kb0, -⟩ := hB_x_1.cells
  have hS0 : ALy E h bl med S := ⟨dk_x_1, rq_x_1, sv_x_1, hB_x_1⟩
  have km_2 : h md = some (.inr (7, [.int (sc 0), .int (sc 1), .int (sc 2), .int (sc 3), .int (sc 4), .int (sc 5), .int (sc 6), .int (sc 7), .int (sc 8), .ref (ad 9), .int (sc 10), .ref (ad 11), .ref (ad 12), .ref (ad 13), .int (sc 14), .int (sc 15), .ref (ad 16), .ref (ad 17), .ref (ad 18), .ref (ad 19), .ref (ad 20), .int (sc 21), .ref (ad 22), .ref (ad 23), .int (sc 24), .int (sc 25), .int (sc 26), .int (sc 27), .int (sc 28)])) := hM.1
  refine lv_aload_n hx hb d_LW_law_401 rfl (lv_at hl 2 rfl) ?_
  refine fh_callV (C := R_BL) (y := y_BL_crash) (bytes := b_BL_crash) (maxL := 3) (ret := (some .int)) (index := 73) (As := []) (rest := []) ⟨hx, hb, hml, hown, hG⟩ (c_BL_crash l E h bl med S t hS0 hI) (cwV 0 hG (gV gm359 gm360 gm361 gm1 gm362) rfl rfl rfl ⟨rfl, hdy_BL_crash⟩ ⟨Nat.le_of_ble_eq_true rfl, Nat.le_of_ble_eq_true rfl⟩) C_BL.1 kb0 hK hZ hP hS hA rfl hl.1 rfl (Nat.le_of_ble_eq_true rfl) d_LW_law_402 ⟨Nat.le_trans (m := 60000) (by omega) lw_rc, Nat.le_trans (m := 2000000) (by omega) lw_rs⟩ (fun r h1 H locs hq9 hP hS => ?_)
  obtain ⟨rfl, hA1, hk1⟩ := hq9
  refine W.eq (g2 := F0 m 405 ls [.int (nI (loM S 256))]) rfl ?_
  have ed1 := hZ.edn hP
  have hM1 := hM.keepB CC (hk1.out out)
  have hf1 := hk1 out _ hf0 CC.2.1 trivial
  obtain ⟨dk_x_4, rq_x_4, sv_x_4, hB_x_4⟩ := hA1
  obtain ⟨bcs_x_4, qu_x_4, cs_x_4, kb_3, -⟩ := hB_x_4.cells
  have hA1 : ALy E h1 bl med (crM S) := ⟨dk_x_4, rq_x_4, sv_x_4, hB_x_4⟩
  have km_5 : h1 md = some (.inr (7, [.int (sc 0), .int (sc 1), .int (sc 2), .int (sc 3), .int (sc 4), .int (sc 5), .int (sc 6), .int (sc 7), .int (sc 8), .ref (ad 9), .int (sc 10), .ref (ad 11), .ref (ad 12), .ref (ad 13), .int (sc 14), .int (sc 15), .ref (ad 16), .ref (ad 17), .ref (ad 18), .ref (ad 19), .ref (ad 20), .int (sc 21), .ref (ad 22), .ref (ad 23), .int (sc 24), .int (sc 25), .int (sc 26), .int (sc 27), .int (sc 28)])) := hM1.1
  refine lv_aload_n hx hb d_LW_law_405 rfl (lv_at hl 3 rfl) ?_
  refine fh_callV (C := R_MD) (y := y_MD_crash) (bytes := b_MD_crash) (maxL := 3) (ret := (some .int)) (index := 76) (As := []) (rest := [.int (nI (loM S 256))]) ⟨hx, hb, hml, hown, hG⟩ (c_MD_crash l E h1 md ad sc ar hM1 S t hR hI) (cwV 0 hG (gV gm857 gm858 gm859 gm8 gm860) rfl rfl rfl ⟨rfl, hdy_MD_crash⟩ ⟨Nat.le_of_ble_eq_true rfl, Nat.le_of_ble_eq_true rfl⟩) C_MD.1 km_5 hK hZ hP hS hA rfl hl.1 rfl (Nat.le_of_ble_eq_true rfl) d_LW_law_406 ⟨Nat.le_trans (m := 60000) (by omega) lw_rc, Nat.le_trans (m := 2000000) (by omega) lw_rs⟩ (fun r h2 H locs hq9 hP hS => ?_)
  obtain ⟨rfl, sc2, ar2, hM2, hR2, c2, K2⟩ := hq9
  refine W.eq (g2 := F0 m 409 ls [.int (nI (loM S 256)), .int (nI (loM S 256))]) rfl ?_
  have ed2 := hZ.edn hP
  have hA2 := hA1.keepM hM1 CC ed1 ed2 K2
  have hf9 := K2.outK CC hf1
  refine lv_icmp_eq (tgt := 694) hx hb d_LW_law_409 (by decide) (fun c_6 => ?_) (fun c_6 => ?_)
  · skip
    exact kk h2 (crM S) _ _ H locs _ _ ls ⟨hA2, hI.cr, hNB.cr, ⟨_, _, hM2, hR2⟩, _, hf9⟩ (by omega) (by omega) (by omega) (by omega) hP hS (lv_sub hl [0, 1, 2, 3, 4] rfl)
  · skip
    exact absurd rfl c_6

set_option maxHeartbeats 800000 in
set_option maxRecDepth 100000 in
theorem law_c10 {p : Program} {l : Launch} {e : Env} {s : State} {m : MethodId} {args : Array Value} {below : List Frame} {meth : Method} {c : Code} {A : Nat → Prop} {E : fh_E} {b L : Nat} {xs : Nat → Int32} {Q : State → Prop} (C0 : LCt p l s m args c A E b L xs) {bl med md out k : Nat} {ad : Nat → Nat} (CC : CNt med md out ad) (hk3 : 3 * k + 3 ≤ L) (hL : L ≤ 1536) {h : fh_H} {S : mS} {t N : Nat} (HS : LSt E h bl med md out ad S t N) (ht : t ≤ 1640 * k) (hN : N ≤ 11 * k) {H : Heap} {locs : List Loc} {cells slots : Nat} (hc : cells ≤ 30 + 90 * k) (hs : slots ≤ 900 + 3362 * k) {ls : Array Slot} (hP : fh_P E.1 vwCl A h H) (hS : va_S A s.heap H locs) (hl : lv_has ls 7 [(4, .int (nI (3 * k))), (0, .ref b), (1, .ref bl), (2, .ref md), (3, .ref out)])
    (kk : ∀ (h2 : fh_H) (S2 : mS) (t2 N2 : Nat) (H2 : Heap) (locs2 : List Loc) (c2 s2 : Nat) (ls2 : Array Slot), LSt E h2 bl med md out ad S2 t2 N2 → t2 ≤ 1640 * (k + 1) → N2 ≤ 11 * (k + 1) → c2 ≤ 30 + 90 * (k + 1) → s2 ≤ 900 + 3362 * (k + 1) → fh_P E.1 vwCl A h2 H2 → va_S A s.heap H2 locs2 → lv_has ls2 7 [(4, .int (nI (3 * k))), (0, .ref b), (1, .ref bl), (2, .ref md), (3, .ref out)] → W p l e room_1 s m args below meth c H2 locs2 c2 s2 Q (F0 m 694 ls2 [])) : W p l e room_1 s m args below meth c H locs cells slots Q (F0 m 582 ls []) := by
  obtain ⟨hx, hb, hml, hown, hG, hK, hZ, hA, hfl, hX, hbl, hbA⟩ := C0
  obtain ⟨hS0, hI, hNB, ⟨sc, ar, hM, hR⟩, f0, hf0⟩ := HS
  have ed0 := hZ.edn hP
  obtain ⟨dk_x_1, rq_x_1, sv_x_1, hB_x_1⟩ := hS0
  obtain ⟨bcs_x_1, qu_x_1, cs_x_1, kb0, -⟩ := hB_x_1.cells
  have hS0 : ALy E h bl med S := ⟨dk_x_1, rq_x_1, sv_x_1, hB_x_1⟩
  have km_2 : h md = some (.inr (7, [.int (sc 0), .int (sc 1), .int (sc 2), .int (sc 3), .int (sc 4), .int (sc 5), .int (sc 6), .int (sc 7), .int (sc 8), .ref (ad 9), .int (sc 10), .ref (ad 11), .ref (ad 12), .ref (ad 13), .int (sc 14), .int (sc 15), .ref (ad 16), .ref (ad 17), .ref (ad 18), .ref (ad 19), .ref (ad 20), .int (sc 21), .ref (ad 22), .ref (ad 23), .int (sc 24), .int (sc 25), .int (sc 26), .int (sc 27), .int (sc 28)])) := hM.1
  refine lv_aload_n hx hb d_LW_law_582 rfl (lv_at hl 2 rfl) ?_
  refine lv_aload_n hx hb d_LW_law_583 rfl (lv_at hl 1 rfl) ?_
  refine lv_iload hx hb d_LW_law_584 (lv_at hl 0 rfl) ?_
  refine lv_iconst (v := 1) hx hb d_LW_law_586 (by decide) ?_
  refine lv_iadd hx hb d_LW_law_587 ?_
  refine W.eq (g2 := F0 m 588 ls [.int (nI (3 * k + 1)), .ref b, .ref bl]) (by rw [nI_1]) ?_
  refine lw_sld hx hb hX hbl hbA hS (by omega) (by omega) d_LW_law_588 ?_
  refine fh_callV (C := R_BL) (y := y_BL_used) (bytes := b_BL_used) (maxL := 3) (ret := (some .int)) (index := 86) (As := [.int (xs (3 * k + 1))]) (rest := []) ⟨hx, hb, hml, hown, hG⟩ ((m_used l E h bl med S t hS0 hI (xs (3 * k + 1))).mono (post' := fun r h1 => r = some (.int (usV S (xs (3 * k + 1)))) ∧ ALy E h1 bl med S ∧ KB h h1 med) (fun _ _ z => z)) (cwV 1 hG (gV gm398 gm399 gm400 gm1 gm401) rfl rfl rfl ⟨rfl, hdy_BL_used⟩ ⟨Nat.le_of_ble_eq_true rfl, Nat.le_of_ble_eq_true rfl⟩) C_BL.1 kb0 hK hZ hP hS hA rfl hl.1 rfl (Nat.le_of_ble_eq_true rfl) d_LW_law_589 ⟨Nat.le_trans (m := 60000) (by omega) lw_rc, Nat.le_trans (m := 2000000) (by omega) lw_rs⟩ (fun r h1 H locs hq9 hP hS => ?_)
  obtain ⟨rfl, hA1, hk1⟩ := hq9
  refine W.eq (g2 := F0 m 592 ls [.int (usV S (xs (3 * k + 1)))]) rfl ?_
  have ed1 := hZ.edn hP
  have hM1 := hM.keepB CC (hk1.out out)
  have hf1 := hk1 out _ hf0 CC.2.1 trivial
  obtain ⟨dk_x_4, rq_x_4, sv_x_4, hB_x_4⟩ := hA1
  obtain ⟨bcs_x_4, qu_x_4, cs_x_4, kb_3, -⟩ := hB_x_4.cells
  have hA1 : ALy E h1 bl med S := ⟨dk_x_4, rq_x_4, sv_x_4, hB_x_4⟩
  have km_5 : h1 md = some (.inr (7, [.int (sc 0), .int (sc 1), .int (sc 2), .int (sc 3), .int (sc 4), .int (sc 5), .int (sc 6), .int (sc 7), .int (sc 8), .ref (ad 9), .int (sc 10), .ref (ad 11), .ref (ad 12), .ref (ad 13), .int (sc 14), .int (sc 15), .ref (ad 16), .ref (ad 17), .ref (ad 18), .ref (ad 19), .ref (ad 20), .int (sc 21), .ref (ad 22), .ref (ad 23), .int (sc 24), .int (sc 25), .int (sc 26), .int (sc 27), .int (sc 28)])) := hM1.1
  refine lv_aload_n hx hb d_LW_law_592 rfl (lv_at hl 3 rfl) ?_
  refine lv_aload_n hx hb d_LW_law_593 rfl (lv_at hl 1 rfl) ?_
  refine lv_iload hx hb d_LW_law_594 (lv_at hl 0 rfl) ?_
  refine lv_iconst (v := 1) hx hb d_LW_law_596 (by decide) ?_
  refine lv_iadd hx hb d_LW_law_597 ?_
  refine W.eq (g2 := F0 m 598 ls [.int (nI (3 * k + 1)), .ref b, .ref md, .int (usV S (xs (3 * k + 1)))]) (by rw [nI_1]) ?_
  refine lw_sld hx hb hX hbl hbA hS (by omega) (by omega) d_LW_law_598 ?_
  refine fh_callV (C := R_MD) (y := y_MD_used) (bytes := b_MD_used) (maxL := 2) (ret := (some .int)) (index := 89) (As := [.int (xs (3 * k + 1))]) (rest := [.int (usV S (xs (3 * k + 1)))]) ⟨hx, hb, hml, hown, hG⟩ ((c_MD_used l E h1 md ad sc ar hM1 S t hR hI (xs (3 * k + 1))).mono (post' := fun r h1' => r = some (.int (usV S (xs (3 * k + 1)))) ∧ ∃ sc1 ar1, MDs E h1' md ad sc1 ar1 ∧ RM sc1 ar1 S ∧ sc1 0 = 0 ∧ KM h1 h1' md ad) (fun _ _ z => z)) (cwV 1 hG (gV gm877 gm878 gm879 gm8 gm880) rfl rfl rfl ⟨rfl, hdy_MD_used⟩ ⟨Nat.le_of_ble_eq_true rfl, Nat.le_of_ble_eq_true rfl⟩) C_MD.1 km_5 hK hZ hP hS hA rfl hl.1 rfl (Nat.le_of_ble_eq_true rfl) d_LW_law_599 ⟨Nat.le_trans (m := 60000) (by omega) lw_rc, Nat.le_trans (m := 2000000) (by omega) lw_rs⟩ (fun r h2 H locs hq9 hP hS => ?_)
  obtain ⟨rfl, sc2, ar2, hM2, hR2, c2, K2⟩ := hq9
  refine W.eq (g2 := F0 m 602 ls [.int (usV S (xs (3 * k + 1))), .int (usV S (xs (3 * k + 1)))]) rfl ?_
  have ed2 := hZ.edn hP
  have hA2 := hA1.keepM hM1 CC ed1 ed2 K2
  have hf9 := K2.outK CC hf1
  refine lv_icmp_eq (tgt := 694) hx hb d_LW_law_602 (by decide) (fun c_6 => ?_) (fun c_6 => ?_)
  · skip
    exact kk h2 (S) _ _ H locs _ _ ls ⟨hA2, hI, hNB, ⟨_, _, hM2, hR2⟩, _, hf9⟩ (by omega) (by omega) (by omega) (by omega) hP hS (lv_sub hl [0, 1, 2, 3, 4] rfl)
  · skip
    exact absurd rfl c_6

set_option maxHeartbeats 800000 in
set_option maxRecDepth 100000 in
theorem law_c11 {p : Program} {l : Launch} {e : Env} {s : State} {m : MethodId} {args : Array Value} {below : List Frame} {meth : Method} {c : Code} {A : Nat → Prop} {E : fh_E} {b L : Nat} {xs : Nat → Int32} {Q : State → Prop} (C0 : LCt p l s m args c A E b L xs) {bl med md out k : Nat} {ad : Nat → Nat} (CC : CNt med md out ad) (hk3 : 3 * k + 3 ≤ L) (hL : L ≤ 1536) {h : fh_H} {S : mS} {t N : Nat} (HS : LSt E h bl med md out ad S t N) (ht : t ≤ 1640 * k) (hN : N ≤ 11 * k) {H : Heap} {locs : List Loc} {cells slots : Nat} (hc : cells ≤ 30 + 90 * k) (hs : slots ≤ 900 + 3362 * k) {ls : Array Slot} (hP : fh_P E.1 vwCl A h H) (hS : va_S A s.heap H locs) (hl : lv_has ls 7 [(4, .int (nI (3 * k))), (0, .ref b), (1, .ref bl), (2, .ref md), (3, .ref out)])
    (kk : ∀ (h2 : fh_H) (S2 : mS) (t2 N2 : Nat) (H2 : Heap) (locs2 : List Loc) (c2 s2 : Nat) (ls2 : Array Slot), LSt E h2 bl med md out ad S2 t2 N2 → t2 ≤ 1640 * (k + 1) → N2 ≤ 11 * (k + 1) → c2 ≤ 30 + 90 * (k + 1) → s2 ≤ 900 + 3362 * (k + 1) → fh_P E.1 vwCl A h2 H2 → va_S A s.heap H2 locs2 → lv_has ls2 7 [(4, .int (nI (3 * k))), (0, .ref b), (1, .ref bl), (2, .ref md), (3, .ref out)] → W p l e room_1 s m args below meth c H2 locs2 c2 s2 Q (F0 m 694 ls2 [])) : W p l e room_1 s m args below meth c H locs cells slots Q (F0 m 607 ls []) := by
  obtain ⟨hx, hb, hml, hown, hG, hK, hZ, hA, hfl, hX, hbl, hbA⟩ := C0
  obtain ⟨hS0, hI, hNB, ⟨sc, ar, hM, hR⟩, f0, hf0⟩ := HS
  have ed0 := hZ.edn hP
  obtain ⟨dk_x_1, rq_x_1, sv_x_1, hB_x_1⟩ := hS0
  obtain ⟨bcs_x_1, qu_x_1, cs_x_1, kb0, -⟩ := hB_x_1.cells
  have hS0 : ALy E h bl med S := ⟨dk_x_1, rq_x_1, sv_x_1, hB_x_1⟩
  have km_2 : h md = some (.inr (7, [.int (sc 0), .int (sc 1), .int (sc 2), .int (sc 3), .int (sc 4), .int (sc 5), .int (sc 6), .int (sc 7), .int (sc 8), .ref (ad 9), .int (sc 10), .ref (ad 11), .ref (ad 12), .ref (ad 13), .int (sc 14), .int (sc 15), .ref (ad 16), .ref (ad 17), .ref (ad 18), .ref (ad 19), .ref (ad 20), .int (sc 21), .ref (ad 22), .ref (ad 23), .int (sc 24), .int (sc 25), .int (sc 26), .int (sc 27), .int (sc 28)])) := hM.1
  refine lv_aload_n hx hb d_LW_law_607 rfl (lv_at hl 2 rfl) ?_
  refine lv_aload_n hx hb d_LW_law_608 rfl (lv_at hl 1 rfl) ?_
  refine lv_iload hx hb d_LW_law_609 (lv_at hl 0 rfl) ?_
  refine lv_iconst (v := 1) hx hb d_LW_law_611 (by decide) ?_
  refine lv_iadd hx hb d_LW_law_612 ?_
  refine W.eq (g2 := F0 m 613 ls [.int (nI (3 * k + 1)), .ref b, .ref bl]) (by rw [nI_1]) ?_
  refine lw_sld hx hb hX hbl hbA hS (by omega) (by omega) d_LW_law_613 ?_
  refine fh_callV (C := R_BL) (y := y_BL_queued) (bytes := b_BL_queued) (maxL := 3) (ret := (some .int)) (index := 90) (As := [.int (xs (3 * k + 1))]) (rest := []) ⟨hx, hb, hml, hown, hG⟩ ((m_queued l E h bl med S t hS0 hI (xs (3 * k + 1))).mono (post' := fun r h1 => r = some (.int (quV S (xs (3 * k + 1)))) ∧ ALy E h1 bl med S ∧ KB h h1 med) (fun _ _ z => z)) (cwV 1 hG (gV gm406 gm407 gm408 gm1 gm409) rfl rfl rfl ⟨rfl, hdy_BL_queued⟩ ⟨Nat.le_of_ble_eq_true rfl, Nat.le_of_ble_eq_true rfl⟩) C_BL.1 kb0 hK hZ hP hS hA rfl hl.1 rfl (Nat.le_of_ble_eq_true rfl) d_LW_law_614 ⟨Nat.le_trans (m := 60000) (by omega) lw_rc, Nat.le_trans (m := 2000000) (by omega) lw_rs⟩ (fun r h1 H locs hq9 hP hS => ?_)
  obtain ⟨rfl, hA1, hk1⟩ := hq9
  refine W.eq (g2 := F0 m 617 ls [.int (quV S (xs (3 * k + 1)))]) rfl ?_
  have ed1 := hZ.edn hP
  have hM1 := hM.keepB CC (hk1.out out)
  have hf1 := hk1 out _ hf0 CC.2.1 trivial
  obtain ⟨dk_x_4, rq_x_4, sv_x_4, hB_x_4⟩ := hA1
  obtain ⟨bcs_x_4, qu_x_4, cs_x_4, kb_3, -⟩ := hB_x_4.cells
  have hA1 : ALy E h1 bl med S := ⟨dk_x_4, rq_x_4, sv_x_4, hB_x_4⟩
  have km_5 : h1 md = some (.inr (7, [.int (sc 0), .int (sc 1), .int (sc 2), .int (sc 3), .int (sc 4), .int (sc 5), .int (sc 6), .int (sc 7), .int (sc 8), .ref (ad 9), .int (sc 10), .ref (ad 11), .ref (ad 12), .ref (ad 13), .int (sc 14), .int (sc 15), .ref (ad 16), .ref (ad 17), .ref (ad 18), .ref (ad 19), .ref (ad 20), .int (sc 21), .ref (ad 22), .ref (ad 23), .int (sc 24), .int (sc 25), .int (sc 26), .int (sc 27), .int (sc 28)])) := hM1.1
  refine lv_aload_n hx hb d_LW_law_617 rfl (lv_at hl 3 rfl) ?_
  refine lv_aload_n hx hb d_LW_law_618 rfl (lv_at hl 1 rfl) ?_
  refine lv_iload hx hb d_LW_law_619 (lv_at hl 0 rfl) ?_
  refine lv_iconst (v := 1) hx hb d_LW_law_621 (by decide) ?_
  refine lv_iadd hx hb d_LW_law_622 ?_
  refine W.eq (g2 := F0 m 623 ls [.int (nI (3 * k + 1)), .ref b, .ref md, .int (quV S (xs (3 * k + 1)))]) (by rw [nI_1]) ?_
  refine lw_sld hx hb hX hbl hbA hS (by omega) (by omega) d_LW_law_623 ?_
  refine fh_callV (C := R_MD) (y := y_MD_queued) (bytes := b_MD_queued) (maxL := 2) (ret := (some .int)) (index := 93) (As := [.int (xs (3 * k + 1))]) (rest := [.int (quV S (xs (3 * k + 1)))]) ⟨hx, hb, hml, hown, hG⟩ ((c_MD_queued l E h1 md ad sc ar hM1 S t hR hI (xs (3 * k + 1))).mono (post' := fun r h1' => r = some (.int (quV S (xs (3 * k + 1)))) ∧ ∃ sc1 ar1, MDs E h1' md ad sc1 ar1 ∧ RM sc1 ar1 S ∧ sc1 0 = 0 ∧ KM h1 h1' md ad) (fun _ _ z => z)) (cwV 1 hG (gV gm881 gm882 gm883 gm8 gm884) rfl rfl rfl ⟨rfl, hdy_MD_queued⟩ ⟨Nat.le_of_ble_eq_true rfl, Nat.le_of_ble_eq_true rfl⟩) C_MD.1 km_5 hK hZ hP hS hA rfl hl.1 rfl (Nat.le_of_ble_eq_true rfl) d_LW_law_624 ⟨Nat.le_trans (m := 60000) (by omega) lw_rc, Nat.le_trans (m := 2000000) (by omega) lw_rs⟩ (fun r h2 H locs hq9 hP hS => ?_)
  obtain ⟨rfl, sc2, ar2, hM2, hR2, c2, K2⟩ := hq9
  refine W.eq (g2 := F0 m 627 ls [.int (quV S (xs (3 * k + 1))), .int (quV S (xs (3 * k + 1)))]) rfl ?_
  have ed2 := hZ.edn hP
  have hA2 := hA1.keepM hM1 CC ed1 ed2 K2
  have hf9 := K2.outK CC hf1
  refine lv_icmp_eq (tgt := 694) hx hb d_LW_law_627 (by decide) (fun c_6 => ?_) (fun c_6 => ?_)
  · skip
    exact kk h2 (S) _ _ H locs _ _ ls ⟨hA2, hI, hNB, ⟨_, _, hM2, hR2⟩, _, hf9⟩ (by omega) (by omega) (by omega) (by omega) hP hS (lv_sub hl [0, 1, 2, 3, 4] rfl)
  · skip
    exact absurd rfl c_6

set_option maxHeartbeats 800000 in
set_option maxRecDepth 100000 in
theorem law_c12 {p : Program} {l : Launch} {e : Env} {s : State} {m : MethodId} {args : Array Value} {below : List Frame} {meth : Method} {c : Code} {A : Nat → Prop} {E : fh_E} {b L : Nat} {xs : Nat → Int32} {Q : State → Prop} (C0 : LCt p l s m args c A E b L xs) {bl med md out k : Nat} {ad : Nat → Nat} (CC : CNt med md out ad) (hk3 : 3 * k + 3 ≤ L) (hL : L ≤ 1536) {h : fh_H} {S : mS} {t N : Nat} (HS : LSt E h bl med md out ad S t N) (ht : t ≤ 1640 * k) (hN : N ≤ 11 * k) {H : Heap} {locs : List Loc} {cells slots : Nat} (hc : cells ≤ 30 + 90 * k) (hs : slots ≤ 900 + 3362 * k) {ls : Array Slot} (hP : fh_P E.1 vwCl A h H) (hS : va_S A s.heap H locs) (hl : lv_has ls 7 [(4, .int (nI (3 * k))), (0, .ref b), (1, .ref bl), (2, .ref md), (3, .ref out)])
    (kk : ∀ (h2 : fh_H) (S2 : mS) (t2 N2 : Nat) (H2 : Heap) (locs2 : List Loc) (c2 s2 : Nat) (ls2 : Array Slot), LSt E h2 bl med md out ad S2 t2 N2 → t2 ≤ 1640 * (k + 1) → N2 ≤ 11 * (k + 1) → c2 ≤ 30 + 90 * (k + 1) → s2 ≤ 900 + 3362 * (k + 1) → fh_P E.1 vwCl A h2 H2 → va_S A s.heap H2 locs2 → lv_has ls2 7 [(4, .int (nI (3 * k))), (0, .ref b), (1, .ref bl), (2, .ref md), (3, .ref out)] → W p l e room_1 s m args below meth c H2 locs2 c2 s2 Q (F0 m 694 ls2 [])) : W p l e room_1 s m args below meth c H locs cells slots Q (F0 m 632 ls []) := by
  obtain ⟨hx, hb, hml, hown, hG, hK, hZ, hA, hfl, hX, hbl, hbA⟩ := C0
  obtain ⟨hS0, hI, hNB, ⟨sc, ar, hM, hR⟩, f0, hf0⟩ := HS
  have ed0 := hZ.edn hP
  obtain ⟨dk_x_1, rq_x_1, sv_x_1, hB_x_1⟩ := hS0
  obtain ⟨bcs_x_1, qu_x_1, cs_x_1, kb0, -⟩ := hB_x_1.cells
  have hS0 : ALy E h bl med S := ⟨dk_x_1, rq_x_1, sv_x_1, hB_x_1⟩
  have km_2 : h md = some (.inr (7, [.int (sc 0), .int (sc 1), .int (sc 2), .int (sc 3), .int (sc 4), .int (sc 5), .int (sc 6), .int (sc 7), .int (sc 8), .ref (ad 9), .int (sc 10), .ref (ad 11), .ref (ad 12), .ref (ad 13), .int (sc 14), .int (sc 15), .ref (ad 16), .ref (ad 17), .ref (ad 18), .ref (ad 19), .ref (ad 20), .int (sc 21), .ref (ad 22), .ref (ad 23), .int (sc 24), .int (sc 25), .int (sc 26), .int (sc 27), .int (sc 28)])) := hM.1
  refine lv_aload_n hx hb d_LW_law_632 rfl (lv_at hl 2 rfl) ?_
  refine lv_aload_n hx hb d_LW_law_633 rfl (lv_at hl 1 rfl) ?_
  refine lv_iload hx hb d_LW_law_634 (lv_at hl 0 rfl) ?_
  refine lv_iconst (v := 1) hx hb d_LW_law_636 (by decide) ?_
  refine lv_iadd hx hb d_LW_law_637 ?_
  refine W.eq (g2 := F0 m 638 ls [.int (nI (3 * k + 1)), .ref b, .ref bl]) (by rw [nI_1]) ?_
  refine lw_sld hx hb hX hbl hbA hS (by omega) (by omega) d_LW_law_638 ?_
  refine lv_aload_n hx hb d_LW_law_639 rfl (lv_at hl 1 rfl) ?_
  refine lv_iload hx hb d_LW_law_640 (lv_at hl 0 rfl) ?_
  refine lv_iconst (v := 2) hx hb d_LW_law_642 (by decide) ?_
  refine lv_iadd hx hb d_LW_law_643 ?_
  refine W.eq (g2 := F0 m 644 ls [.int (nI (3 * k + 2)), .ref b, .int (xs (3 * k + 1)), .ref bl]) (by rw [show (2 : Int32) = nI 2 from rfl, nI_add]) ?_
  refine lw_sld hx hb hX hbl hbA hS (by omega) (by omega) d_LW_law_644 ?_
  refine fh_callV (C := R_BL) (y := y_BL_request) (bytes := b_BL_request) (maxL := 4) (ret := (some .int)) (index := 94) (As := [.int (xs (3 * k + 1)), .int (xs (3 * k + 2))]) (rest := []) ⟨hx, hb, hml, hown, hG⟩ ((m_request l E h bl med S t hS0 hI (xs (3 * k + 1)) (xs (3 * k + 2))).mono (post' := fun r h1 => r = some (.int (rqV S (xs (3 * k + 1)) (xs (3 * k + 2)))) ∧ ALy E h1 bl med S ∧ KB h h1 med) (fun _ _ z => z)) (cwV 2 hG (gV gm411 gm412 gm413 gm1 gm414) rfl rfl rfl ⟨rfl, hdy_BL_request⟩ ⟨Nat.le_of_ble_eq_true rfl, Nat.le_of_ble_eq_true rfl⟩) C_BL.1 kb0 hK hZ hP hS hA rfl hl.1 rfl (Nat.le_of_ble_eq_true rfl) d_LW_law_645 ⟨Nat.le_trans (m := 60000) (by omega) lw_rc, Nat.le_trans (m := 2000000) (by omega) lw_rs⟩ (fun r h1 H locs hq9 hP hS => ?_)
  obtain ⟨rfl, hA1, hk1⟩ := hq9
  refine W.eq (g2 := F0 m 648 ls [.int (rqV S (xs (3 * k + 1)) (xs (3 * k + 2)))]) rfl ?_
  have ed1 := hZ.edn hP
  have hM1 := hM.keepB CC (hk1.out out)
  have hf1 := hk1 out _ hf0 CC.2.1 trivial
  obtain ⟨dk_x_4, rq_x_4, sv_x_4, hB_x_4⟩ := hA1
  obtain ⟨bcs_x_4, qu_x_4, cs_x_4, kb_3, -⟩ := hB_x_4.cells
  have hA1 : ALy E h1 bl med S := ⟨dk_x_4, rq_x_4, sv_x_4, hB_x_4⟩
  have km_5 : h1 md = some (.inr (7, [.int (sc 0), .int (sc 1), .int (sc 2), .int (sc 3), .int (sc 4), .int (sc 5), .int (sc 6), .int (sc 7), .int (sc 8), .ref (ad 9), .int (sc 10), .ref (ad 11), .ref (ad 12), .ref (ad 13), .int (sc 14), .int (sc 15), .ref (ad 16), .ref (ad 17), .ref (ad 18), .ref (ad 19), .ref (ad 20), .int (sc 21), .ref (ad 22), .ref (ad 23), .int (sc 24), .int (sc 25), .int (sc 26), .int (sc 27), .int (sc 28)])) := hM1.1
  refine lv_aload_n hx hb d_LW_law_648 rfl (lv_at hl 3 rfl) ?_
  refine lv_aload_n hx hb d_LW_law_649 rfl (lv_at hl 1 rfl) ?_
  refine lv_iload hx hb d_LW_law_650 (lv_at hl 0 rfl) ?_
  refine lv_iconst (v := 1) hx hb d_LW_law_652 (by decide) ?_
  refine lv_iadd hx hb d_LW_law_653 ?_
  refine W.eq (g2 := F0 m 654 ls [.int (nI (3 * k + 1)), .ref b, .ref md, .int (rqV S (xs (3 * k + 1)) (xs (3 * k + 2)))]) (by rw [nI_1]) ?_
  refine lw_sld hx hb hX hbl hbA hS (by omega) (by omega) d_LW_law_654 ?_
  refine lv_aload_n hx hb d_LW_law_655 rfl (lv_at hl 1 rfl) ?_
  refine lv_iload hx hb d_LW_law_656 (lv_at hl 0 rfl) ?_
  refine lv_iconst (v := 2) hx hb d_LW_law_658 (by decide) ?_
  refine lv_iadd hx hb d_LW_law_659 ?_
  refine W.eq (g2 := F0 m 660 ls [.int (nI (3 * k + 2)), .ref b, .int (xs (3 * k + 1)), .ref md, .int (rqV S (xs (3 * k + 1)) (xs (3 * k + 2)))]) (by rw [show (2 : Int32) = nI 2 from rfl, nI_add]) ?_
  refine lw_sld hx hb hX hbl hbA hS (by omega) (by omega) d_LW_law_660 ?_
  refine fh_callV (C := R_MD) (y := y_MD_request) (bytes := b_MD_request) (maxL := 5) (ret := (some .int)) (index := 97) (As := [.int (xs (3 * k + 1)), .int (xs (3 * k + 2))]) (rest := [.int (rqV S (xs (3 * k + 1)) (xs (3 * k + 2)))]) ⟨hx, hb, hml, hown, hG⟩ ((c_MD_request l E h1 md ad sc ar hM1 S t hR hI (xs (3 * k + 1)) (xs (3 * k + 2))).mono (post' := fun r h1' => r = some (.int (rqV S (xs (3 * k + 1)) (xs (3 * k + 2)))) ∧ ∃ sc1 ar1, MDs E h1' md ad sc1 ar1 ∧ RM sc1 ar1 S ∧ sc1 0 = 0 ∧ KM h1 h1' md ad) (fun _ _ z => z)) (cwV 2 hG (gV gm885 gm886 gm887 gm8 gm888) rfl rfl rfl ⟨rfl, hdy_MD_request⟩ ⟨Nat.le_of_ble_eq_true rfl, Nat.le_of_ble_eq_true rfl⟩) C_MD.1 km_5 hK hZ hP hS hA rfl hl.1 rfl (Nat.le_of_ble_eq_true rfl) d_LW_law_661 ⟨Nat.le_trans (m := 60000) (by omega) lw_rc, Nat.le_trans (m := 2000000) (by omega) lw_rs⟩ (fun r h2 H locs hq9 hP hS => ?_)
  obtain ⟨rfl, sc2, ar2, hM2, hR2, c2, K2⟩ := hq9
  refine W.eq (g2 := F0 m 664 ls [.int (rqV S (xs (3 * k + 1)) (xs (3 * k + 2))), .int (rqV S (xs (3 * k + 1)) (xs (3 * k + 2)))]) rfl ?_
  have ed2 := hZ.edn hP
  have hA2 := hA1.keepM hM1 CC ed1 ed2 K2
  have hf9 := K2.outK CC hf1
  refine lv_icmp_eq (tgt := 694) hx hb d_LW_law_664 (by decide) (fun c_6 => ?_) (fun c_6 => ?_)
  · skip
    exact kk h2 (S) _ _ H locs _ _ ls ⟨hA2, hI, hNB, ⟨_, _, hM2, hR2⟩, _, hf9⟩ (by omega) (by omega) (by omega) (by omega) hP hS (lv_sub hl [0, 1, 2, 3, 4] rfl)
  · skip
    exact absurd rfl c_6

set_option maxHeartbeats 800000 in
set_option maxRecDepth 100000 in
theorem law_c13 {p : Program} {l : Launch} {e : Env} {s : State} {m : MethodId} {args : Array Value} {below : List Frame} {meth : Method} {c : Code} {A : Nat → Prop} {E : fh_E} {b L : Nat} {xs : Nat → Int32} {Q : State → Prop} (C0 : LCt p l s m args c A E b L xs) {bl med md out k : Nat} {ad : Nat → Nat} (CC : CNt med md out ad) (hk3 : 3 * k + 3 ≤ L) (hL : L ≤ 1536) {h : fh_H} {S : mS} {t N : Nat} (HS : LSt E h bl med md out ad S t N) (ht : t ≤ 1640 * k) (hN : N ≤ 11 * k) {H : Heap} {locs : List Loc} {cells slots : Nat} (hc : cells ≤ 30 + 90 * k) (hs : slots ≤ 900 + 3362 * k) {ls : Array Slot} (hP : fh_P E.1 vwCl A h H) (hS : va_S A s.heap H locs) (hl : lv_has ls 7 [(4, .int (nI (3 * k))), (0, .ref b), (1, .ref bl), (2, .ref md), (3, .ref out)])
    (kk : ∀ (h2 : fh_H) (S2 : mS) (t2 N2 : Nat) (H2 : Heap) (locs2 : List Loc) (c2 s2 : Nat) (ls2 : Array Slot), LSt E h2 bl med md out ad S2 t2 N2 → t2 ≤ 1640 * (k + 1) → N2 ≤ 11 * (k + 1) → c2 ≤ 30 + 90 * (k + 1) → s2 ≤ 900 + 3362 * (k + 1) → fh_P E.1 vwCl A h2 H2 → va_S A s.heap H2 locs2 → lv_has ls2 7 [(4, .int (nI (3 * k))), (0, .ref b), (1, .ref bl), (2, .ref md), (3, .ref out)] → W p l e room_1 s m args below meth c H2 locs2 c2 s2 Q (F0 m 694 ls2 [])) : W p l e room_1 s m args below meth c H locs cells slots Q (F0 m 669 ls []) := by
  obtain ⟨hx, hb, hml, hown, hG, hK, hZ, hA, hfl, hX, hbl, hbA⟩ := C0
  obtain ⟨hS0, hI, hNB, ⟨sc, ar, hM, hR⟩, f0, hf0⟩ := HS
  have ed0 := hZ.edn hP
  obtain ⟨dk_x_1, rq_x_1, sv_x_1, hB_x_1⟩ := hS0
  obtain ⟨bcs_x_1, qu_x_1, cs_x_1, kb0, -⟩ := hB_x_1.cells
  have hS0 : ALy E h bl med S := ⟨dk_x_1, rq_x_1, sv_x_1, hB_x_1⟩
  have km_2 : h md = some (.inr (7, [.int (sc 0), .int (sc 1), .int (sc 2), .int (sc 3), .int (sc 4), .int (sc 5), .int (sc 6), .int (sc 7), .int (sc 8), .ref (ad 9), .int (sc 10), .ref (ad 11), .ref (ad 12), .ref (ad 13), .int (sc 14), .int (sc 15), .ref (ad 16), .ref (ad 17), .ref (ad 18), .ref (ad 19), .ref (ad 20), .int (sc 21), .ref (ad 22), .ref (ad 23), .int (sc 24), .int (sc 25), .int (sc 26), .int (sc 27), .int (sc 28)])) := hM.1
  refine lv_aload_n hx hb d_LW_law_669 rfl (lv_at hl 2 rfl) ?_
  refine lv_aload_n hx hb d_LW_law_670 rfl (lv_at hl 1 rfl) ?_
  refine lv_iload hx hb d_LW_law_671 (lv_at hl 0 rfl) ?_
  refine lv_iconst (v := 1) hx hb d_LW_law_673 (by decide) ?_
  refine lv_iadd hx hb d_LW_law_674 ?_
  refine W.eq (g2 := F0 m 675 ls [.int (nI (3 * k + 1)), .ref b, .ref bl]) (by rw [nI_1]) ?_
  refine lw_sld hx hb hX hbl hbA hS (by omega) (by omega) d_LW_law_675 ?_
  refine fh_callV (C := R_BL) (y := y_BL_told) (bytes := b_BL_told) (maxL := 2) (ret := (some .int)) (index := 98) (As := [.int (xs (3 * k + 1))]) (rest := []) ⟨hx, hb, hml, hown, hG⟩ (m_told l E h bl med S t hS0 hI (xs (3 * k + 1))) (cwV 1 hG (gV gm423 gm424 gm425 gm1 gm426) rfl rfl rfl ⟨rfl, hdy_BL_told⟩ ⟨Nat.le_of_ble_eq_true rfl, Nat.le_of_ble_eq_true rfl⟩) C_BL.1 kb0 hK hZ hP hS hA rfl hl.1 rfl (Nat.le_of_ble_eq_true rfl) d_LW_law_676 ⟨Nat.le_trans (m := 60000) (by omega) lw_rc, Nat.le_trans (m := 2000000) (by omega) lw_rs⟩ (fun r h1 H locs hq9 hP hS => ?_)
  obtain ⟨rfl, hA1, hk1⟩ := hq9
  refine W.eq (g2 := F0 m 679 ls [.int (tdM S (xs (3 * k + 1)))]) rfl ?_
  have ed1 := hZ.edn hP
  have hM1 := hM.keepB CC (hk1.out out)
  have hf1 := hk1 out _ hf0 CC.2.1 trivial
  obtain ⟨dk_x_4, rq_x_4, sv_x_4, hB_x_4⟩ := hA1
  obtain ⟨bcs_x_4, qu_x_4, cs_x_4, kb_3, -⟩ := hB_x_4.cells
  have hA1 : ALy E h1 bl med S := ⟨dk_x_4, rq_x_4, sv_x_4, hB_x_4⟩
  have km_5 : h1 md = some (.inr (7, [.int (sc 0), .int (sc 1), .int (sc 2), .int (sc 3), .int (sc 4), .int (sc 5), .int (sc 6), .int (sc 7), .int (sc 8), .ref (ad 9), .int (sc 10), .ref (ad 11), .ref (ad 12), .ref (ad 13), .int (sc 14), .int (sc 15), .ref (ad 16), .ref (ad 17), .ref (ad 18), .ref (ad 19), .ref (ad 20), .int (sc 21), .ref (ad 22), .ref (ad 23), .int (sc 24), .int (sc 25), .int (sc 26), .int (sc 27), .int (sc 28)])) := hM1.1
  refine lv_aload_n hx hb d_LW_law_679 rfl (lv_at hl 3 rfl) ?_
  refine lv_aload_n hx hb d_LW_law_680 rfl (lv_at hl 1 rfl) ?_
  refine lv_iload hx hb d_LW_law_681 (lv_at hl 0 rfl) ?_
  refine lv_iconst (v := 1) hx hb d_LW_law_683 (by decide) ?_
  refine lv_iadd hx hb d_LW_law_684 ?_
  refine W.eq (g2 := F0 m 685 ls [.int (nI (3 * k + 1)), .ref b, .ref md, .int (tdM S (xs (3 * k + 1)))]) (by rw [nI_1]) ?_
  refine lw_sld hx hb hX hbl hbA hS (by omega) (by omega) d_LW_law_685 ?_
  refine fh_callV (C := R_MD) (y := y_MD_told) (bytes := b_MD_told) (maxL := 2) (ret := (some .int)) (index := 101) (As := [.int (xs (3 * k + 1))]) (rest := [.int (tdM S (xs (3 * k + 1)))]) ⟨hx, hb, hml, hown, hG⟩ (c_MD_told l E h1 md ad sc ar hM1 S t hR hI (xs (3 * k + 1))) (cwV 1 hG (gV gm889 gm890 gm891 gm8 gm892) rfl rfl rfl ⟨rfl, hdy_MD_told⟩ ⟨Nat.le_of_ble_eq_true rfl, Nat.le_of_ble_eq_true rfl⟩) C_MD.1 km_5 hK hZ hP hS hA rfl hl.1 rfl (Nat.le_of_ble_eq_true rfl) d_LW_law_686 ⟨Nat.le_trans (m := 60000) (by omega) lw_rc, Nat.le_trans (m := 2000000) (by omega) lw_rs⟩ (fun r h2 H locs hq9 hP hS => ?_)
  obtain ⟨rfl, sc2, ar2, hM2, hR2, c2, K2⟩ := hq9
  refine W.eq (g2 := F0 m 689 ls [.int (tdM S (xs (3 * k + 1))), .int (tdM S (xs (3 * k + 1)))]) rfl ?_
  have ed2 := hZ.edn hP
  have hA2 := hA1.keepM hM1 CC ed1 ed2 K2
  have hf9 := K2.outK CC hf1
  refine lv_icmp_eq (tgt := 694) hx hb d_LW_law_689 (by decide) (fun c_6 => ?_) (fun c_6 => ?_)
  · skip
    exact kk h2 (S) _ _ H locs _ _ ls ⟨hA2, hI, hNB, ⟨_, _, hM2, hR2⟩, _, hf9⟩ (by omega) (by omega) (by omega) (by omega) hP hS (lv_sub hl [0, 1, 2, 3, 4] rfl)
  · skip
    exact absurd rfl c_6

