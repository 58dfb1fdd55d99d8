/-! THE LAYER, in the model: step, drain. -/
/-- the cells of a layer hold the state S -/
def ALy (E : fh_E) (h : fh_H) (bl med : Nat) (S : mS) : Prop := ∃ dk rqs sv, BLr E h bl dk med rqs sv S
theorem BLr.cells {E : fh_E} {h : fh_H} {bl dk med : Nat} {rqs : List tQ} {sv : Option tQ} {S : mS} (hS : BLr E h bl dk med rqs sv S) : ∃ bcs qu cs, h bl = some (.inr (6, [.ref bcs, .ref dk, .int S.nn, .int S.hi, .int S.mi, .int S.ev, .int S.ab])) ∧ h dk = some (.inr (5, [.ref qu, .ref med, .ref cs, va_rf (sv.map (·.1)), .int S.ul, .int S.tm, .int S.hd, .int S.up, .int S.wy, .int S.sd, .int S.il])) := by
  obtain ⟨bcs, bal, barr, qu, qal, qarr, cs, cal, carr, bps, cps, hS, -⟩ := hS
  exact ⟨bcs, qu, cs, hS.1, hS.2.2.1.1⟩
def drM : Nat → mS → mS
  | 0, S => S
  | f + 1, S => if cnt S = 0 then S else drM f (nextM S)
theorem cnt_w {S : mS} (h : ¬ cnt S = 0) : S.sv ≠ none ∨ S.q ≠ [] := by
  unfold cnt at h
  cases hs : S.sv with
  | some r => exact Or.inl (fun z => by cases z)
  | none =>
    rw [hs] at h
    refine Or.inr (fun z => h ?_)
    rw [z]; rfl
theorem Inv.dr : ∀ (f : Nat) {S : mS} {t : Nat}, Inv S t → Inv (drM f S) (t + 40 * f) := by
  intro f
  induction f with
  | zero => intro S t h; exact h
  | succ f ih =>
    intro S t h
    unfold drM
    by_cases z : cnt S = 0
    · rw [if_pos z]
      obtain ⟨i1, i2, i3, i4, i5, i6, i7, i8, i9, i10, i11, i12, n, hn, i13⟩ := h
      exact ⟨i1, i2, i3, i4, i5, i6, i7, i8, i9, i10, i11, i12, n, by omega, i13⟩
    · rw [if_neg z]
      have := ih (h.next (cnt_w z)).1
      rw [show t + 40 * (f + 1) = t + 40 + 40 * f by omega]; exact this
theorem cnt_41 {S : mS} {t : Nat} (h : Inv S t) : cnt S ≤ 41 := by
  have := h.q40
  unfold cnt; split <;> omega
set_option maxHeartbeats 4000000 in
set_option maxRecDepth 100000 in
theorem c_BL_step (l : Launch) (E : fh_E) (h : fh_H) (bl med : Nat) (S : mS) (t : Nat) (hS0 : ALy E h bl med S) (hI : Inv S t) (n : Nat) (hn1 : 1 ≤ n) (hn2 : n ≤ 1000) : fh_Met l y_BL_step w_BL_step ({ frames := 11, cells := 86, slots := 3268, locals := 279 }) E [.ref bl, .int (nI n)] h (fun r h1 => r = some (.int ((paM 43 n S).tm)) ∧ ALy E h1 bl med (paM 43 n S) ∧ KB h h1 med) 86 3268 := by
  refine fh_ofW (cc := b_BL_step) (maxL := 2) (ret := (some .int)) (by decide) rfl (Nat.le_of_ble_eq_true rfl) ?_
  intro p e s m below meth c A ls hx hb hr hml hown hts hlocks hname hnoh hadm hA hK hZ hP hS hl
  have hG : ∀ w ∈ G, w.before _ s = true := fun w hw => hts w (List.mem_cons_of_mem _ hw)
  have hown : s.vm.findClass R_BL = some m.cls := hown
  have hl : lv_has ls 2 [(0, .ref bl), (1, .int (nI n))] := hl
  obtain ⟨dk, rqs, sv, hB⟩ := hS0
  obtain ⟨bcs, qu, cs, hb0, hd0⟩ := hB.cells
  refine lv_iload_n hx hb d_BL_step_0 rfl (lv_at hl 1 rfl) ?_
  refine lv_iconst (v := 1) hx hb d_BL_step_1 (by decide) ?_
  refine lv_icmp_lt (tgt := 12) hx hb d_BL_step_2 (by decide) (fun c_1 => ?_) (fun c_1 => ?_)
  · skip
    exact absurd (show nI n < nI 1 from c_1) (nI_nlt hn1 (by omega))
  · skip
    refine lv_iload_n hx hb d_BL_step_5 rfl (lv_at hl 1 rfl) ?_
    refine lv_sipush (v := 1000) hx hb d_BL_step_6 (by decide) ?_
    refine lv_icmp_le (tgt := 22) hx hb d_BL_step_9 (by decide) (fun c_2 => ?_) (fun c_2 => ?_)
    · skip
      refine lv_aload_n hx hb d_BL_step_22 rfl (lv_at hl 0 rfl) ?_
      refine fh_get hx hb hG C_BL iG_BL hown hK hP hb0 1 (by decide) gm131 rfl d_BL_step_23 ?_
      refine lv_iload_n hx hb d_BL_step_26 rfl (lv_at hl 1 rfl) ?_
      refine fh_callV (C := R_DK) (y := y_DK_pass) (bytes := b_DK_pass) (maxL := 4) (ret := none) (index := 91) (As := [.int (nI n)]) (rest := []) ⟨hx, hb, hml, hown, hG⟩ (c_DK_pass l E h bl dk med rqs sv S t n hn2 hB hI) (cwV 1 hG (gV gm634 gm635 gm636 gm6 gm637) rfl rfl rfl ⟨rfl, hdy_DK_pass⟩ ⟨Nat.le_of_ble_eq_true rfl, Nat.le_of_ble_eq_true rfl⟩) C_DK.1 hd0 hK hZ hP hS hA rfl hl.1 rfl (Nat.le_of_ble_eq_true rfl) d_BL_step_27 ⟨Nat.le_of_ble_eq_true rfl, Nat.le_of_ble_eq_true rfl⟩ (fun r h1 H locs hq9 hP hS => ?_)
      obtain ⟨rfl, rq2, s2, B2, K2⟩ := hq9
      obtain ⟨bcs2, qu2, cs2, hb2, hd2⟩ := B2.cells
      refine W.eq (g2 := F0 m 30 ls []) rfl ?_
      refine lv_aload_n hx hb d_BL_step_30 rfl (lv_at hl 0 rfl) ?_
      refine fh_get hx hb hG C_BL iG_BL hown hK hP hb2 1 (by decide) gm131 rfl d_BL_step_31 ?_
      refine fh_get hx hb hG C_DK iG_DK hown hK hP hd2 5 (by decide) gm95 rfl d_BL_step_34 ?_
      exact fh_iret hx hb hr hlocks (Nat.le_of_ble_eq_true rfl) (Nat.le_of_ble_eq_true rfl) hP hS ⟨rfl, ⟨dk, rq2, s2, B2⟩, K2⟩ d_BL_step_37
    · skip
      exact absurd (show nI n ≤ nI 1000 from nI_le hn2 (by decide)) c_2

set_option maxHeartbeats 4000000 in
set_option maxRecDepth 100000 in
theorem t_BL_step (l : Launch) (E : fh_E) (h : fh_H) (hfl : l.flags = pinnedFlags ++ [noTraceFlag]) (bl : Nat) (b : Int32) (hn : b.toInt < 1 ∨ (1000 : Int) < b.toInt) : th_M l y_BL_step w_BL_step ({ frames := 11, cells := 86, slots := 3268, locals := 279 }) E [.ref bl, .int b] h xIAE 86 3268 := by
  refine th_ofWh (cc := b_BL_step) (maxL := 2) (ret := (some .int)) (by decide) rfl (Nat.le_of_ble_eq_true rfl) ?_
  intro p e s m below meth c A ls hx hb hr hml hown hts hlocks hname hnoh hadm hA hK hZ hP hS hl
  have hG : ∀ w ∈ G, w.before _ s = true := fun w hw => hts w (List.mem_cons_of_mem _ hw)
  have hown : s.vm.findClass R_BL = some m.cls := hown
  have hl : lv_has ls 2 [(0, .ref bl), (1, .int b)] := hl
  refine lv_iload_n hx hb d_BL_step_0 rfl (lv_at hl 1 rfl) ?_
  refine lv_iconst (v := 1) hx hb d_BL_step_1 (by decide) ?_
  refine lv_icmp_lt (tgt := 12) hx hb d_BL_step_2 (by decide) (fun c_1 => ?_) (fun c_1 => ?_)
  · skip
    exact th_go (tx := "a step has 1 to 1000 units") hx hb (hml.trans hl.1.symm) hown hfl hadm thIn_iae (by simp [fhCast]) (by decide +kernel) gm618 gm22 (by simp [fhTxt]) hnoh hlocks hZ hG hP hA ⟨Nat.le_of_ble_eq_true rfl, Nat.le_of_ble_eq_true rfl, Nat.le_of_ble_eq_true rfl, Nat.le_of_ble_eq_true rfl⟩ d_BL_step_12 d_BL_step_15 d_BL_step_16 d_BL_step_18 d_BL_step_21 (Nat.le_of_ble_eq_true rfl) (Nat.le_of_ble_eq_true rfl)
  · skip
    refine lv_iload_n hx hb d_BL_step_5 rfl (lv_at hl 1 rfl) ?_
    refine lv_sipush (v := 1000) hx hb d_BL_step_6 (by decide) ?_
    refine lv_icmp_le (tgt := 22) hx hb d_BL_step_9 (by decide) (fun c_2 => ?_) (fun c_2 => ?_)
    · skip
      exfalso
      rw [show (1000 : Int32) = nI 1000 from rfl, Int32.le_iff_toInt_le, nI_toInt (by decide)] at c_2
      rw [show (1 : Int32) = nI 1 from rfl, lt_nat (by decide)] at c_1
      omega
    · skip
      exact th_go (tx := "a step has 1 to 1000 units") hx hb (hml.trans hl.1.symm) hown hfl hadm thIn_iae (by simp [fhCast]) (by decide +kernel) gm618 gm22 (by simp [fhTxt]) hnoh hlocks hZ hG hP hA ⟨Nat.le_of_ble_eq_true rfl, Nat.le_of_ble_eq_true rfl, Nat.le_of_ble_eq_true rfl, Nat.le_of_ble_eq_true rfl⟩ d_BL_step_12 d_BL_step_15 d_BL_step_16 d_BL_step_18 d_BL_step_21 (Nat.le_of_ble_eq_true rfl) (Nat.le_of_ble_eq_true rfl)

set_option maxHeartbeats 4000000 in
set_option maxRecDepth 100000 in
theorem c_BL_drain (l : Launch) (E : fh_E) (h : fh_H) (bl med : Nat) (S : mS) (t : Nat) (hS0 : ALy E h bl med S) (hI : Inv S t)  : fh_Met l y_BL_drain w_BL_drain ({ frames := 11, cells := 82, slots := 3116, locals := 276 }) E [.ref bl] h (fun r h1 => r = some (.int ((drM 41 S).tm - S.tm)) ∧ ALy E h1 bl med (drM 41 S) ∧ KB h h1 med) 82 3116 := by
  refine fh_ofW (cc := b_BL_drain) (maxL := 3) (ret := (some .int)) (by decide) rfl (Nat.le_of_ble_eq_true rfl) ?_
  intro p e s m below meth c A ls hx hb hr hml hown hts hlocks hname hnoh hadm hA hK hZ hP hS hl
  have hG : ∀ w ∈ G, w.before _ s = true := fun w hw => hts w (List.mem_cons_of_mem _ hw)
  have hown : s.vm.findClass R_BL = some m.cls := hown
  have hl : lv_has ls 3 [(0, .ref bl)] := hl
  obtain ⟨dk, rqs, sv, hB⟩ := hS0
  obtain ⟨bcs, qu, cs, hb0, hd0⟩ := hB.cells
  refine lv_aload_n hx hb d_BL_drain_0 rfl (lv_at hl 0 rfl) ?_
  refine fh_get hx hb hG C_BL iG_BL hown hK hP hb0 1 (by decide) gm131 rfl d_BL_drain_1 ?_
  refine fh_get hx hb hG C_DK iG_DK hown hK hP hd0 5 (by decide) gm95 rfl d_BL_drain_4 ?_
  refine lv_istore_n (lv' := [(1, .int S.tm), (0, .ref bl)]) hx hb d_BL_drain_7 rfl hl (by decide) rfl (fun ls hl => ?_)
  refine lv_iconst (v := 0) hx hb d_BL_drain_8 (by decide) ?_
  refine lv_istore_n (lv' := [(2, .int 0), (1, .int S.tm), (0, .ref bl)]) hx hb d_BL_drain_9 rfl hl (by decide) rfl (fun ls hl => ?_)
  have loop : ∀ (f i : Nat) (S2 : mS) (rq : List tQ) (s2 : Option tQ) (t2 : Nat) (hw : fh_H) (H : Heap) (locs : List Loc) (cells slots : Nat) (ls : Array Slot), drM 41 S = drM f S2 → cnt S2 ≤ f → i + f = 41 → cells + 2 * f ≤ 82 → slots + 76 * f ≤ 3116 → Inv S2 t2 → BLr E hw bl dk med rq s2 S2 → KB h hw med → lv_has ls 3 [(2, .int (nI i)), (1, .int S.tm), (0, .ref bl)] → fh_P E.1 vwCl A hw H → va_S A s.heap H locs → W p l e ({ frames := 11, cells := 82, slots := 3116, locals := 276 }) s m ([.ref bl] : List Value).toArray below meth c H locs cells slots (MQ below (fh_Post E (fun r h1 => r = some (.int ((drM 41 S).tm - S.tm)) ∧ ALy E h1 bl med (drM 41 S) ∧ KB h h1 med) A) ([.ref bl] : List Value).toArray s 82 3116 A) (F0 m 10 ls []) := by
    intro f
    induction f with
    | zero =>
      intro i S2 rq s2 t2 hw H locs cells slots ls ep hc hif c1 c2 hI2 hB2 hk hl hP hS
      obtain ⟨bcs, qu, cs, hb2, hd2⟩ := hB2.cells
      refine lv_iload_n hx hb d_BL_drain_10 rfl (lv_at hl 0 rfl) ?_
      refine lv_bipush (v := 40) hx hb d_BL_drain_11 (by decide) ?_
      refine lv_icmp_gt (tgt := 39) hx hb d_BL_drain_13 (by decide) (fun c_1 => ?_) (fun c_1 => ?_)
      · skip
        have e9 : drM 41 S = S2 := ep
        refine lv_aload_n hx hb d_BL_drain_39 rfl (lv_at hl 2 rfl) ?_
        refine fh_get hx hb hG C_BL iG_BL hown hK hP hb2 1 (by decide) gm131 rfl d_BL_drain_40 ?_
        refine fh_get hx hb hG C_DK iG_DK hown hK hP hd2 5 (by decide) gm95 rfl d_BL_drain_43 ?_
        refine lv_iload_n hx hb d_BL_drain_46 rfl (lv_at hl 1 rfl) ?_
        refine lv_isub hx hb d_BL_drain_47 ?_
        refine fh_iret hx hb hr hlocks (by omega) (by omega) hP hS ⟨by rw [e9], ⟨dk, rq, s2, e9 ▸ hB2⟩, hk⟩ d_BL_drain_48
      · skip
        exact absurd (show nI 40 < nI i from nI_lt (by omega) (by omega)) c_1
    | succ f ih =>
      intro i S2 rq s2 t2 hw H locs cells slots ls ep hc hif c1 c2 hI2 hB2 hk hl hP hS
      obtain ⟨bcs, qu, cs, hb2, hd2⟩ := hB2.cells
      refine lv_iload_n hx hb d_BL_drain_10 rfl (lv_at hl 0 rfl) ?_
      refine lv_bipush (v := 40) hx hb d_BL_drain_11 (by decide) ?_
      refine lv_icmp_gt (tgt := 39) hx hb d_BL_drain_13 (by decide) (fun c_2 => ?_) (fun c_2 => ?_)
      · skip
        exact absurd c_2 (nI_nlt (a := 40) (by omega) (by omega))
      · skip
        refine lv_aload_n hx hb d_BL_drain_16 rfl (lv_at hl 2 rfl) ?_
        refine fh_get hx hb hG C_BL iG_BL hown hK hP hb2 1 (by decide) gm131 rfl d_BL_drain_17 ?_
        obtain ⟨bcs9, bal9, barr9, qu9, qal9, qarr9, cs9, cal9, carr9, bps9, cps9, hS9, eb9, eq9, ec9, es9⟩ := id hB2
        have hq9_ : rq.length ≤ 48 := by
          have h9 : (rq.map (·.2)).length ≤ 40 := by rw [eq9]; exact hI2.q40
          rw [List.length_map] at h9
          omega
        refine fh_callV (C := R_DK) (y := y_DK_hasWork) (bytes := b_DK_hasWork) (maxL := 1) (ret := (some .boolean)) (index := 97) (As := []) (rest := []) ⟨hx, hb, hml, hown, hG⟩ (c_DK_hasWork l E hw dk qu9 med cs9 s2 _ _ _ _ _ _ _ hS9.2.2.1.1 qal9 qarr9 rq hS9.2.2.1.2.1 hq9_) (cwV 0 hG (gV gm156 gm157 gm158 gm6 gm159) rfl rfl rfl ⟨rfl, hdy_DK_hasWork⟩ ⟨Nat.le_of_ble_eq_true rfl, Nat.le_of_ble_eq_true rfl⟩) C_DK.1 hd2 hK hZ hP hS hA rfl hl.1 rfl (Nat.le_of_ble_eq_true rfl) d_BL_drain_20 ⟨show cells + 0 ≤ 82 by omega, show slots + 0 ≤ 3116 by omega⟩ (fun r h1 H locs hq9 hP hS => ?_)
        obtain ⟨rfl, e9⟩ := hq9
        rw [e9] at hP
        refine W.eq (g2 := F0 m 23 ls [.int (if s2 = none ∧ rq = [] then 0 else 1)]) rfl ?_
        have hz : (s2 = none ∧ rq = []) ↔ cnt S2 = 0 := by
          unfold cnt
          rw [← es9, ← eq9, List.length_map]
          cases s2 with
          | none => simp
          | some r => simp
        refine lv_if_eq (tgt := 39) hx hb d_BL_drain_23 (by decide) (fun c_3 => ?_) (fun c_3 => ?_)
        · skip
          have hz2 : cnt S2 = 0 := by
            by_cases z : s2 = none ∧ rq = []
            · exact hz.mp z
            · rw [if_neg z] at c_3; exact absurd c_3 (by decide)
          have e9 : drM 41 S = S2 := by rw [ep]; unfold drM; rw [if_pos hz2]
          refine lv_aload_n hx hb d_BL_drain_39 rfl (lv_at hl 2 rfl) ?_
          refine fh_get hx hb hG C_BL iG_BL hown hK hP hb2 1 (by decide) gm131 rfl d_BL_drain_40 ?_
          refine fh_get hx hb hG C_DK iG_DK hown hK hP hd2 5 (by decide) gm95 rfl d_BL_drain_43 ?_
          refine lv_iload_n hx hb d_BL_drain_46 rfl (lv_at hl 1 rfl) ?_
          refine lv_isub hx hb d_BL_drain_47 ?_
          refine fh_iret hx hb hr hlocks (by omega) (by omega) hP hS ⟨by rw [e9], ⟨dk, rq, s2, e9 ▸ hB2⟩, hk⟩ d_BL_drain_48
        · skip
          have hz2 : ¬ cnt S2 = 0 := fun z => by
            rw [if_pos (hz.mpr z)] at c_3; exact absurd rfl c_3
          refine lv_aload_n hx hb d_BL_drain_26 rfl (lv_at hl 2 rfl) ?_
          refine fh_get hx hb hG C_BL iG_BL hown hK hP hb2 1 (by decide) gm131 rfl d_BL_drain_27 ?_
          refine fh_callV (C := R_DK) (y := y_DK_passToNextEnd) (bytes := b_DK_passToNextEnd) (maxL := 1) (ret := none) (index := 51) (As := []) (rest := []) ⟨hx, hb, hml, hown, hG⟩ (c_next l E hw bl dk med rq s2 S2 t2 hB2 hI2 (cnt_w hz2)) (cwV 0 hG (gV gm168 gm169 gm170 gm6 gm171) rfl rfl rfl ⟨rfl, hdy_DK_passToNextEnd⟩ ⟨Nat.le_of_ble_eq_true rfl, Nat.le_of_ble_eq_true rfl⟩) C_DK.1 hd2 hK hZ hP hS hA rfl hl.1 rfl (Nat.le_of_ble_eq_true rfl) d_BL_drain_30 ⟨show cells + 0 + 2 ≤ 82 by omega, show slots + 0 + 76 ≤ 3116 by omega⟩ (fun r h2 H locs hq9 hP hS => ?_)
          obtain ⟨rfl, rq4, r9, B4, -, -, -, K4, -⟩ := hq9
          obtain ⟨E1, E2, E3⟩ := hI2.next (cnt_w hz2)
          refine W.eq (g2 := F0 m 33 ls []) rfl ?_
          refine lv_iinc (v := ((nI i)) + 1) (lv' := [(2, .int (((nI i)) + 1)), (1, .int S.tm), (0, .ref bl)]) hx hb d_BL_drain_33 hl (k := 0) rfl rfl (by decide) rfl (fun ls hl => ?_)
          refine lv_goto (tgt := 10) hx hb d_BL_drain_36 (by decide) ?_
          exact ih (i + 1) (nextM S2) rq4 none _ h2 H locs _ _ ls (by rw [ep]; show (if cnt S2 = 0 then S2 else _) = _; rw [if_neg hz2]) (by omega) (by omega) (by omega) (by omega) E1 B4 (hk.trans K4) (by rw [nI_succ]; exact hl) hP hS
  exact loop 41 0 S rqs sv t h _ _ 0 0 _ rfl (cnt_41 hI) (by omega) (by omega) (by omega) hI hB KB.rfl (by rw [nI_0]; exact hl) hP hS

