/-! THE LAYER: told, request, policy. -/
/-- the live request of a number -/
def lvR (rqs : List tQ) (sv : Option tQ) (n : Int32) : Option tQ := match sv with
  | some r => if r.2.1 = n then some r else rqs.find? (fun c => c.2.1 == n)
  | none => rqs.find? (fun c => c.2.1 == n)
theorem lvR_in {rqs : List tQ} {sv : Option tQ} {n : Int32} {r : tQ} (h : lvR rqs sv n = some r) : sv = some r ∨ r ∈ rqs := by
  unfold lvR at h
  cases sv with
  | none => exact Or.inr (List.mem_of_find?_eq_some h)
  | some r0 =>
    simp only [] at h
    by_cases z : r0.2.1 = n
    · rw [if_pos z] at h; exact Or.inl h
    · rw [if_neg z] at h; exact Or.inr (List.mem_of_find?_eq_some h)
def rqT (r : tQ) (w : Int32) : Int32 := if w = 0 then r.2.2.1 else if w = 1 then r.2.2.2.1 else if w = 2 then r.2.2.2.2.2 else if w = 3 then r.2.2.2.2.1 else -1
def tdT (bps : List tC) (rqs : List tQ) (cps : List tC) (sv : Option tQ) (tm hd sd il hi mi ev ab w : Int32) : Int32 :=
  if w = 0 then tm else if w = 1 then hd else if w = 2 then (match sv with | some r => r.2.1 | none => -1) else if w = 3 then nI rqs.length else if w = 4 then nI cps.length else if w = 5 then nI bps.length else if w = 6 then hi else if w = 7 then mi else if w = 8 then ev else if w = 9 then ab else if w = 10 then sd else if w = 11 then il else -1
theorem out_ne {w : Int32} {n k : Nat} (h : w.toInt < 0 ∨ (n : Int) ≤ w.toInt) (hk : k < n) (hn : n ≤ 100000) : ¬ w = nI k := by
  intro z
  rw [z, nI_toInt (by omega)] at h
  omega
theorem rqT_out {r : tQ} {w : Int32} (h : w.toInt < 0 ∨ (4 : Int) ≤ w.toInt) : rqT r w = -1 := by
  have q : ∀ k, k < 4 → ¬ w = nI k := fun k hk => out_ne (n := 4) h hk (by decide)
  unfold rqT
  rw [if_neg (show ¬ w = 0 from q 0 (by decide)), if_neg (show ¬ w = 1 from q 1 (by decide)), if_neg (show ¬ w = 2 from q 2 (by decide)), if_neg (show ¬ w = 3 from q 3 (by decide))]
theorem tdT_out {bps : List tC} {rqs : List tQ} {cps : List tC} {sv : Option tQ} {tm hd sd il hi mi ev ab w : Int32} (h : w.toInt < 0 ∨ (12 : Int) ≤ w.toInt) : tdT bps rqs cps sv tm hd sd il hi mi ev ab w = -1 := by
  have q : ∀ k, k < 12 → ¬ w = nI k := fun k hk => out_ne (n := 12) h hk (by decide)
  unfold tdT
  rw [if_neg (show ¬ w = 0 from q 0 (by decide)), if_neg (show ¬ w = 1 from q 1 (by decide)), if_neg (show ¬ w = 2 from q 2 (by decide)), if_neg (show ¬ w = 3 from q 3 (by decide)), if_neg (show ¬ w = 4 from q 4 (by decide)), if_neg (show ¬ w = 5 from q 5 (by decide)), if_neg (show ¬ w = 6 from q 6 (by decide)), if_neg (show ¬ w = 7 from q 7 (by decide)), if_neg (show ¬ w = 8 from q 8 (by decide)), if_neg (show ¬ w = 9 from q 9 (by decide)), if_neg (show ¬ w = 10 from q 10 (by decide)), if_neg (show ¬ w = 11 from q 11 (by decide))]

set_option maxHeartbeats 4000000 in
set_option maxRecDepth 100000 in
theorem c_BL_liveRequest (l : Launch) (E : fh_E) (h : fh_H) (bl bcs bal barr dk qu qal qarr med cs cal carr : Nat) (bps : List tC) (rqs : List tQ) (mf : Nat → Int32) (cps : List tC) (sv : Option tQ) (ul tm hd up wy sd il nn hi mi ev ab : Int32) (hS0 : BLs E h bl bcs bal barr dk qu qal qarr med cs cal carr bps rqs mf cps sv ul tm hd up wy sd il nn hi mi ev ab) (hb10 : bps.length ≤ 10) (hq41 : rqs.length ≤ 41) (hc6 : cps.length ≤ 6) (n : Int32) : fh_Met l y_BL_liveRequest w_BL_liveRequest ({ frames := 4, cells := 0, slots := 0, locals := 86 }) E [.ref bl, .int n] h (fun r h1 => r = some (va_rf ((lvR rqs sv n).map (·.1))) ∧ h1 = h) 0 0 := by
  refine fh_ofW (cc := b_BL_liveRequest) (maxL := 3) (ret := (some (.object "BlockLayer$Request"))) (by decide) rfl (Nat.le_of_ble_eq_true rfl) ?_
  intro p e s m below meth c A ls hx hb hr hml hown hts hlocks hname hnoh hadm hA hK hZ hP hS hl
  have hG : ∀ w ∈ G, w.before _ s = true := fun w hw => hts w (List.mem_cons_of_mem _ hw)
  have hown : s.vm.findClass R_BL = some m.cls := hown
  have hl : lv_has ls 3 [(0, .ref bl), (1, .int n)] := hl
  have hS1 := hS0
  obtain ⟨hb0, hBC, hDK, hap⟩ := hS0
  have hDK0 := hDK
  obtain ⟨hd0, hQ, hm, hC, hsv, hnd, hqc, hqa⟩ := hDK
  have kqu := hQ.1
  have kcs := hC.1
  have kbc := hBC.1
  rcases sv with _ | r9
  · have hd0 : h dk = some (.inr (5, [.ref qu, .ref med, .ref cs, .null, .int ul, .int tm, .int hd, .int up, .int wy, .int sd, .int il])) := hd0
    refine lv_aload_n hx hb d_BL_liveRequest_0 rfl (lv_at hl 0 rfl) ?_
    refine fh_get hx hb hG C_BL iG_BL hown hK hP hb0 1 (by decide) gm131 rfl d_BL_liveRequest_1 ?_
    refine fh_get hx hb hG C_DK iG_DK hown hK hP hd0 3 (by decide) gm93 rfl d_BL_liveRequest_4 ?_
    refine lv_astore_nN (lv' := [(2, .null), (0, .ref bl), (1, .int n)]) hx hb d_BL_liveRequest_7 rfl hl (by decide) rfl (fun ls hl => ?_)
    refine lv_aload_nN hx hb d_BL_liveRequest_8 rfl (lv_at hl 0 rfl) ?_
    refine lv_ifnullN (tgt := 22) hx hb d_BL_liveRequest_9 (by decide) ?_
    refine lv_aload_n hx hb d_BL_liveRequest_22 rfl (lv_at hl 1 rfl) ?_
    refine fh_get hx hb hG C_BL iG_BL hown hK hP hb0 1 (by decide) gm131 rfl d_BL_liveRequest_23 ?_
    refine fh_get hx hb hG C_DK iG_DK hown hK hP hd0 0 (by decide) gm88 rfl d_BL_liveRequest_26 ?_
    refine lv_iload_n hx hb d_BL_liveRequest_29 rfl (lv_at hl 2 rfl) ?_
    refine fh_callV (C := R_QU) (y := y_QU_ofNumber) (bytes := b_QU_ofNumber) (maxL := 3) (ret := (some (.object "BlockLayer$Request"))) (index := 197) (As := [.int n]) (rest := []) ⟨hx, hb, hml, hown, hG⟩ (c_QU_ofNumber l E h qu qal qarr rqs hQ (by omega) n) (cwV 1 hG (gV gm419 gm420 gm421 gm7 gm422) rfl rfl rfl ⟨rfl, hdy_QU_ofNumber⟩ ⟨Nat.le_of_ble_eq_true rfl, Nat.le_of_ble_eq_true rfl⟩) C_QU.1 kqu hK hZ hP hS hA rfl hl.1 rfl (Nat.le_of_ble_eq_true rfl) d_BL_liveRequest_30 ⟨Nat.le_of_ble_eq_true rfl, Nat.le_of_ble_eq_true rfl⟩ (fun r h1 H locs hq9 hP hS => ?_)
    obtain ⟨rfl, e9⟩ := hq9
    rw [e9] at hP
    refine W.eq (g2 := F0 m 33 ls [va_rf ((rqs.find? (fun c => c.2.1 == n)).map (·.1))]) rfl ?_
    cases hf9 : rqs.find? (fun c => c.2.1 == n) with
    | none =>
      refine W.eq (g2 := F0 m 33 ls [.null]) (rfl) ?_
      exact fh_aret hx hb hr (Or.inl ⟨_, rfl⟩) (Or.inl rfl) hlocks (Nat.le_of_ble_eq_true rfl) (Nat.le_of_ble_eq_true rfl) hP hS ⟨by unfold lvR; simp only []; rw [hf9]; rfl, rfl⟩ d_BL_liveRequest_33
    | some r0 =>
      refine W.eq (g2 := F0 m 33 ls [.ref r0.1]) (rfl) ?_
      exact fh_aret hx hb hr (Or.inl ⟨_, rfl⟩) (Or.inr ⟨_, rfl⟩) hlocks (Nat.le_of_ble_eq_true rfl) (Nat.le_of_ble_eq_true rfl) hP hS ⟨by unfold lvR; simp only []; rw [hf9]; rfl, rfl⟩ d_BL_liveRequest_33
  · have hd0 : h dk = some (.inr (5, [.ref qu, .ref med, .ref cs, .ref r9.1, .int ul, .int tm, .int hd, .int up, .int wy, .int sd, .int il])) := hd0
    have k9 := (hsv r9 rfl).1
    refine lv_aload_n hx hb d_BL_liveRequest_0 rfl (lv_at hl 0 rfl) ?_
    refine fh_get hx hb hG C_BL iG_BL hown hK hP hb0 1 (by decide) gm131 rfl d_BL_liveRequest_1 ?_
    refine fh_get hx hb hG C_DK iG_DK hown hK hP hd0 3 (by decide) gm93 rfl d_BL_liveRequest_4 ?_
    refine lv_astore_n (lv' := [(2, .ref r9.1), (0, .ref bl), (1, .int n)]) hx hb d_BL_liveRequest_7 rfl hl (by decide) rfl (fun ls hl => ?_)
    refine lv_aload_n hx hb d_BL_liveRequest_8 rfl (lv_at hl 0 rfl) ?_
    refine lv_ifnull hx hb d_BL_liveRequest_9 ?_
    refine lv_aload_n hx hb d_BL_liveRequest_12 rfl (lv_at hl 0 rfl) ?_
    refine fh_get hx hb hG C_RQ iG_RQ hown hK hP k9 0 (by decide) gm554 rfl d_BL_liveRequest_13 ?_
    refine lv_iload_n hx hb d_BL_liveRequest_16 rfl (lv_at hl 2 rfl) ?_
    refine lv_icmp_ne (tgt := 22) hx hb d_BL_liveRequest_17 (by decide) (fun c_1 => ?_) (fun c_1 => ?_)
    · skip
      refine lv_aload_n hx hb d_BL_liveRequest_22 rfl (lv_at hl 1 rfl) ?_
      refine fh_get hx hb hG C_BL iG_BL hown hK hP hb0 1 (by decide) gm131 rfl d_BL_liveRequest_23 ?_
      refine fh_get hx hb hG C_DK iG_DK hown hK hP hd0 0 (by decide) gm88 rfl d_BL_liveRequest_26 ?_
      refine lv_iload_n hx hb d_BL_liveRequest_29 rfl (lv_at hl 2 rfl) ?_
      refine fh_callV (C := R_QU) (y := y_QU_ofNumber) (bytes := b_QU_ofNumber) (maxL := 3) (ret := (some (.object "BlockLayer$Request"))) (index := 197) (As := [.int n]) (rest := []) ⟨hx, hb, hml, hown, hG⟩ (c_QU_ofNumber l E h qu qal qarr rqs hQ (by omega) n) (cwV 1 hG (gV gm419 gm420 gm421 gm7 gm422) rfl rfl rfl ⟨rfl, hdy_QU_ofNumber⟩ ⟨Nat.le_of_ble_eq_true rfl, Nat.le_of_ble_eq_true rfl⟩) C_QU.1 kqu hK hZ hP hS hA rfl hl.1 rfl (Nat.le_of_ble_eq_true rfl) d_BL_liveRequest_30 ⟨Nat.le_of_ble_eq_true rfl, Nat.le_of_ble_eq_true rfl⟩ (fun r h1 H locs hq9 hP hS => ?_)
      obtain ⟨rfl, e9⟩ := hq9
      rw [e9] at hP
      refine W.eq (g2 := F0 m 33 ls [va_rf ((rqs.find? (fun c => c.2.1 == n)).map (·.1))]) rfl ?_
      cases hf9 : rqs.find? (fun c => c.2.1 == n) with
      | none =>
        refine W.eq (g2 := F0 m 33 ls [.null]) (rfl) ?_
        exact fh_aret hx hb hr (Or.inl ⟨_, rfl⟩) (Or.inl rfl) hlocks (Nat.le_of_ble_eq_true rfl) (Nat.le_of_ble_eq_true rfl) hP hS ⟨by unfold lvR; simp only []; rw [if_neg c_1]; rw [hf9]; rfl, rfl⟩ d_BL_liveRequest_33
      | some r0 =>
        refine W.eq (g2 := F0 m 33 ls [.ref r0.1]) (rfl) ?_
        exact fh_aret hx hb hr (Or.inl ⟨_, rfl⟩) (Or.inr ⟨_, rfl⟩) hlocks (Nat.le_of_ble_eq_true rfl) (Nat.le_of_ble_eq_true rfl) hP hS ⟨by unfold lvR; simp only []; rw [if_neg c_1]; rw [hf9]; rfl, rfl⟩ d_BL_liveRequest_33
    · skip
      refine lv_aload_n hx hb d_BL_liveRequest_20 rfl (lv_at hl 0 rfl) ?_
      exact fh_aret hx hb hr (Or.inl ⟨_, rfl⟩) (Or.inr ⟨_, rfl⟩) hlocks (Nat.le_of_ble_eq_true rfl) (Nat.le_of_ble_eq_true rfl) hP hS ⟨by unfold lvR; simp only []; rw [if_pos c_1]; rfl, rfl⟩ d_BL_liveRequest_21

set_option maxHeartbeats 4000000 in
set_option maxRecDepth 100000 in
theorem c_BL_request (l : Launch) (E : fh_E) (h : fh_H) (bl bcs bal barr dk qu qal qarr med cs cal carr : Nat) (bps : List tC) (rqs : List tQ) (mf : Nat → Int32) (cps : List tC) (sv : Option tQ) (ul tm hd up wy sd il nn hi mi ev ab : Int32) (hS0 : BLs E h bl bcs bal barr dk qu qal qarr med cs cal carr bps rqs mf cps sv ul tm hd up wy sd il nn hi mi ev ab) (hb10 : bps.length ≤ 10) (hq41 : rqs.length ≤ 41) (hc6 : cps.length ≤ 6) (n w : Int32) : fh_Met l y_BL_request w_BL_request ({ frames := 5, cells := 0, slots := 0, locals := 108 }) E [.ref bl, .int n, .int w] h (fun r h1 => r = some (.int (match lvR rqs sv n with | some r => rqT r w | none => -1)) ∧ h1 = h) 0 0 := by
  refine fh_ofW (cc := b_BL_request) (maxL := 4) (ret := (some .int)) (by decide) rfl (Nat.le_of_ble_eq_true rfl) ?_
  intro p e s m below meth c A ls hx hb hr hml hown hts hlocks hname hnoh hadm hA hK hZ hP hS hl
  have hG : ∀ w ∈ G, w.before _ s = true := fun w hw => hts w (List.mem_cons_of_mem _ hw)
  have hown : s.vm.findClass R_BL = some m.cls := hown
  have hl : lv_has ls 4 [(0, .ref bl), (1, .int n), (2, .int w)] := hl
  have hS1 := hS0
  obtain ⟨hb0, hBC, hDK, hap⟩ := hS0
  have hDK0 := hDK
  obtain ⟨hd0, hQ, hm, hC, hsv, hnd, hqc, hqa⟩ := hDK
  have kqu := hQ.1
  have kcs := hC.1
  have kbc := hBC.1
  refine lv_aload_n hx hb d_BL_request_0 rfl (lv_at hl 0 rfl) ?_
  refine lv_iload_n hx hb d_BL_request_1 rfl (lv_at hl 1 rfl) ?_
  refine fh_callV (C := R_BL) (y := y_BL_liveRequest) (bytes := b_BL_liveRequest) (maxL := 3) (ret := (some (.object "BlockLayer$Request"))) (index := 138) (As := [.int n]) (rest := []) ⟨hx, hb, hml, hown, hG⟩ (c_BL_liveRequest l E h bl bcs bal barr dk qu qal qarr med cs cal carr bps rqs mf cps sv ul tm hd up wy sd il nn hi mi ev ab hS1 hb10 hq41 hc6 n) (cwV 1 hG (gV gm415 gm417 gs_BL_liveRequest gm1 gm418) rfl rfl rfl ⟨rfl, hdy_BL_liveRequest⟩ ⟨Nat.le_of_ble_eq_true rfl, Nat.le_of_ble_eq_true rfl⟩) C_BL.1 hb0 hK hZ hP hS hA rfl hl.1 rfl (Nat.le_of_ble_eq_true rfl) d_BL_request_2 ⟨Nat.le_of_ble_eq_true rfl, Nat.le_of_ble_eq_true rfl⟩ (fun r h1 H locs hq9 hP hS => ?_)
  obtain ⟨rfl, e9⟩ := hq9
  rw [e9] at hP
  refine W.eq (g2 := F0 m 5 ls [va_rf ((lvR rqs sv n).map (·.1))]) rfl ?_
  cases hf9 : lvR rqs sv n with
  | none =>
    refine W.eq (g2 := F0 m 5 ls [.null]) (rfl) ?_
    refine lv_astore_nN (lv' := [(3, .null), (0, .ref bl), (1, .int n), (2, .int w)]) hx hb d_BL_request_5 rfl hl (by decide) rfl (fun ls hl => ?_)
    refine lv_aload_nN hx hb d_BL_request_6 rfl (lv_at hl 0 rfl) ?_
    refine lv_ifnonnullN hx hb d_BL_request_7 ?_
    refine lv_iconst (v := (-1)) hx hb d_BL_request_10 (by decide) ?_
    exact fh_iret hx hb hr hlocks (Nat.le_of_ble_eq_true rfl) (Nat.le_of_ble_eq_true rfl) hP hS ⟨rfl, rfl⟩ d_BL_request_11
  | some r0 =>
    have kr : h r0.1 = some (.inr (3, [.int r0.2.1, .int r0.2.2.1, .int r0.2.2.2.1, .int r0.2.2.2.2.1, .int r0.2.2.2.2.2, .int 0])) := (lvR_in hf9).elim (fun z => (hsv r0 z).1) (fun z => hQ.2.2 r0 z)
    refine W.eq (g2 := F0 m 5 ls [.ref r0.1]) (rfl) ?_
    refine lv_astore_n (lv' := [(3, .ref r0.1), (0, .ref bl), (1, .int n), (2, .int w)]) hx hb d_BL_request_5 rfl hl (by decide) rfl (fun ls hl => ?_)
    refine lv_aload_n hx hb d_BL_request_6 rfl (lv_at hl 0 rfl) ?_
    refine lv_ifnonnull (tgt := 12) hx hb d_BL_request_7 (by decide) ?_
    refine lv_iload_n hx hb d_BL_request_12 rfl (lv_at hl 3 rfl) ?_
    rcases sw_in (n := 4) (by decide) w with ⟨k, hk, rfl⟩ | hw
    · rcases (show k = 0 ∨ k = 1 ∨ k = 2 ∨ k = 3 by omega) with rfl | rfl | rfl | rfl
      · refine lv_tableIn (off := 31) (tgt := 44) hx hb d_BL_request_13 (by decide) (by decide) (by decide) (by decide) ?_
        refine lv_aload_n hx hb d_BL_request_44 rfl (lv_at hl 0 rfl) ?_
        refine fh_get hx hb hG C_RQ iG_RQ hown hK hP kr 1 (by decide) gm558 rfl d_BL_request_45 ?_
        exact fh_iret hx hb hr hlocks (Nat.le_of_ble_eq_true rfl) (Nat.le_of_ble_eq_true rfl) hP hS ⟨rfl, rfl⟩ d_BL_request_48
      · refine lv_tableIn (off := 36) (tgt := 49) hx hb d_BL_request_13 (by decide) (by decide) (by decide) (by decide) ?_
        refine lv_aload_n hx hb d_BL_request_49 rfl (lv_at hl 0 rfl) ?_
        refine fh_get hx hb hG C_RQ iG_RQ hown hK hP kr 2 (by decide) gm562 rfl d_BL_request_50 ?_
        exact fh_iret hx hb hr hlocks (Nat.le_of_ble_eq_true rfl) (Nat.le_of_ble_eq_true rfl) hP hS ⟨rfl, rfl⟩ d_BL_request_53
      · refine lv_tableIn (off := 41) (tgt := 54) hx hb d_BL_request_13 (by decide) (by decide) (by decide) (by decide) ?_
        refine lv_aload_n hx hb d_BL_request_54 rfl (lv_at hl 0 rfl) ?_
        refine fh_get hx hb hG C_RQ iG_RQ hown hK hP kr 4 (by decide) gm567 rfl d_BL_request_55 ?_
        exact fh_iret hx hb hr hlocks (Nat.le_of_ble_eq_true rfl) (Nat.le_of_ble_eq_true rfl) hP hS ⟨rfl, rfl⟩ d_BL_request_58
      · refine lv_tableIn (off := 46) (tgt := 59) hx hb d_BL_request_13 (by decide) (by decide) (by decide) (by decide) ?_
        refine lv_aload_n hx hb d_BL_request_59 rfl (lv_at hl 0 rfl) ?_
        refine fh_get hx hb hG C_RQ iG_RQ hown hK hP kr 3 (by decide) gm565 rfl d_BL_request_60 ?_
        exact fh_iret hx hb hr hlocks (Nat.le_of_ble_eq_true rfl) (Nat.le_of_ble_eq_true rfl) hP hS ⟨rfl, rfl⟩ d_BL_request_63
    · refine lv_tableOut (tgt := 64) hx hb d_BL_request_13 (hw.imp id (fun z => by omega)) (by decide) ?_
      refine lv_iconst (v := (-1)) hx hb d_BL_request_64 (by decide) ?_
      exact fh_iret hx hb hr hlocks (Nat.le_of_ble_eq_true rfl) (Nat.le_of_ble_eq_true rfl) hP hS ⟨by simp only []; rw [rqT_out hw], rfl⟩ d_BL_request_65

set_option maxHeartbeats 4000000 in
set_option maxRecDepth 100000 in
theorem c_BL_told (l : Launch) (E : fh_E) (h : fh_H) (bl bcs bal barr dk qu qal qarr med cs cal carr : Nat) (bps : List tC) (rqs : List tQ) (mf : Nat → Int32) (cps : List tC) (sv : Option tQ) (ul tm hd up wy sd il nn hi mi ev ab : Int32) (hS0 : BLs E h bl bcs bal barr dk qu qal qarr med cs cal carr bps rqs mf cps sv ul tm hd up wy sd il nn hi mi ev ab) (hb10 : bps.length ≤ 10) (hq41 : rqs.length ≤ 41) (hc6 : cps.length ≤ 6) (w : Int32) : fh_Met l y_BL_told w_BL_told ({ frames := 2, cells := 0, slots := 0, locals := 40 }) E [.ref bl, .int w] h (fun r h1 => r = some (.int (tdT bps rqs cps sv tm hd sd il hi mi ev ab w)) ∧ h1 = h) 0 0 := by
  refine fh_ofW (cc := b_BL_told) (maxL := 2) (ret := (some .int)) (by decide) rfl (Nat.le_of_ble_eq_true rfl) ?_
  intro p e s m below meth c A ls hx hb hr hml hown hts hlocks hname hnoh hadm hA hK hZ hP hS hl
  have hG : ∀ w ∈ G, w.before _ s = true := fun w hw => hts w (List.mem_cons_of_mem _ hw)
  have hown : s.vm.findClass R_BL = some m.cls := hown
  have hl : lv_has ls 2 [(0, .ref bl), (1, .int w)] := hl
  have hS1 := hS0
  obtain ⟨hb0, hBC, hDK, hap⟩ := hS0
  have hDK0 := hDK
  obtain ⟨hd0, hQ, hm, hC, hsv, hnd, hqc, hqa⟩ := hDK
  have kqu := hQ.1
  have kcs := hC.1
  have kbc := hBC.1
  refine lv_iload_n hx hb d_BL_told_0 rfl (lv_at hl 1 rfl) ?_
  rcases sw_in (n := 12) (by decide) w with ⟨k, hk, rfl⟩ | hw
  · rcases (show k = 0 ∨ k = 1 ∨ k = 2 ∨ k = 3 ∨ k = 4 ∨ k = 5 ∨ k = 6 ∨ k = 7 ∨ k = 8 ∨ k = 9 ∨ k = 10 ∨ k = 11 by omega) with rfl | rfl | rfl | rfl | rfl | rfl | rfl | rfl | rfl | rfl | rfl | rfl
    · refine lv_tableIn (off := 63) (tgt := 64) hx hb d_BL_told_1 (by decide) (by decide) (by decide) (by decide) ?_
      refine lv_aload_n hx hb d_BL_told_64 rfl (lv_at hl 0 rfl) ?_
      refine fh_get hx hb hG C_BL iG_BL hown hK hP hb0 1 (by decide) gm131 rfl d_BL_told_65 ?_
      refine fh_get hx hb hG C_DK iG_DK hown hK hP hd0 5 (by decide) gm95 rfl d_BL_told_68 ?_
      exact fh_iret hx hb hr hlocks (Nat.le_of_ble_eq_true rfl) (Nat.le_of_ble_eq_true rfl) hP hS ⟨rfl, rfl⟩ d_BL_told_71
    · refine lv_tableIn (off := 71) (tgt := 72) hx hb d_BL_told_1 (by decide) (by decide) (by decide) (by decide) ?_
      refine lv_aload_n hx hb d_BL_told_72 rfl (lv_at hl 0 rfl) ?_
      refine fh_get hx hb hG C_BL iG_BL hown hK hP hb0 1 (by decide) gm131 rfl d_BL_told_73 ?_
      refine fh_get hx hb hG C_DK iG_DK hown hK hP hd0 6 (by decide) gm98 rfl d_BL_told_76 ?_
      exact fh_iret hx hb hr hlocks (Nat.le_of_ble_eq_true rfl) (Nat.le_of_ble_eq_true rfl) hP hS ⟨rfl, rfl⟩ d_BL_told_79
    · refine lv_tableIn (off := 79) (tgt := 80) hx hb d_BL_told_1 (by decide) (by decide) (by decide) (by decide) ?_
      rcases sv with _ | r9
      · have hd0 : h dk = some (.inr (5, [.ref qu, .ref med, .ref cs, .null, .int ul, .int tm, .int hd, .int up, .int wy, .int sd, .int il])) := hd0
        refine lv_aload_n hx hb d_BL_told_80 rfl (lv_at hl 0 rfl) ?_
        refine fh_get hx hb hG C_BL iG_BL hown hK hP hb0 1 (by decide) gm131 rfl d_BL_told_81 ?_
        refine fh_get hx hb hG C_DK iG_DK hown hK hP hd0 3 (by decide) gm93 rfl d_BL_told_84 ?_
        refine lv_ifnonnullN hx hb d_BL_told_87 ?_
        refine lv_iconst (v := (-1)) hx hb d_BL_told_90 (by decide) ?_
        refine lv_goto (tgt := 104) hx hb d_BL_told_91 (by decide) ?_
        exact fh_iret hx hb hr hlocks (Nat.le_of_ble_eq_true rfl) (Nat.le_of_ble_eq_true rfl) hP hS ⟨rfl, rfl⟩ d_BL_told_104
      · have hd0 : h dk = some (.inr (5, [.ref qu, .ref med, .ref cs, .ref r9.1, .int ul, .int tm, .int hd, .int up, .int wy, .int sd, .int il])) := hd0
        have k9 := (hsv r9 rfl).1
        refine lv_aload_n hx hb d_BL_told_80 rfl (lv_at hl 0 rfl) ?_
        refine fh_get hx hb hG C_BL iG_BL hown hK hP hb0 1 (by decide) gm131 rfl d_BL_told_81 ?_
        refine fh_get hx hb hG C_DK iG_DK hown hK hP hd0 3 (by decide) gm93 rfl d_BL_told_84 ?_
        refine lv_ifnonnull (tgt := 94) hx hb d_BL_told_87 (by decide) ?_
        refine lv_aload_n hx hb d_BL_told_94 rfl (lv_at hl 0 rfl) ?_
        refine fh_get hx hb hG C_BL iG_BL hown hK hP hb0 1 (by decide) gm131 rfl d_BL_told_95 ?_
        refine fh_get hx hb hG C_DK iG_DK hown hK hP hd0 3 (by decide) gm93 rfl d_BL_told_98 ?_
        refine fh_get hx hb hG C_RQ iG_RQ hown hK hP k9 0 (by decide) gm554 rfl d_BL_told_101 ?_
        exact fh_iret hx hb hr hlocks (Nat.le_of_ble_eq_true rfl) (Nat.le_of_ble_eq_true rfl) hP hS ⟨rfl, rfl⟩ d_BL_told_104
    · refine lv_tableIn (off := 104) (tgt := 105) hx hb d_BL_told_1 (by decide) (by decide) (by decide) (by decide) ?_
      refine lv_aload_n hx hb d_BL_told_105 rfl (lv_at hl 0 rfl) ?_
      refine fh_get hx hb hG C_BL iG_BL hown hK hP hb0 1 (by decide) gm131 rfl d_BL_told_106 ?_
      refine fh_get hx hb hG C_DK iG_DK hown hK hP hd0 0 (by decide) gm88 rfl d_BL_told_109 ?_
      refine fh_callV (C := R_QU) (y := y_QU_size) (bytes := b_QU_size) (maxL := 1) (ret := (some .int)) (index := 155) (As := []) (rest := []) ⟨hx, hb, hml, hown, hG⟩ (c_QU_size l E h qu qal qarr rqs hQ (by omega)) (cwV 0 hG (gV gm427 gm161 gm162 gm7 gm163) rfl rfl rfl ⟨rfl, hdy_QU_size⟩ ⟨Nat.le_of_ble_eq_true rfl, Nat.le_of_ble_eq_true rfl⟩) C_QU.1 kqu hK hZ hP hS hA rfl hl.1 rfl (Nat.le_of_ble_eq_true rfl) d_BL_told_112 ⟨Nat.le_of_ble_eq_true rfl, Nat.le_of_ble_eq_true rfl⟩ (fun r h1 H locs hq9 hP hS => ?_)
      obtain ⟨rfl, e9⟩ := hq9
      rw [e9] at hP
      refine W.eq (g2 := F0 m 115 ls [.int (nI rqs.length)]) rfl ?_
      exact fh_iret hx hb hr hlocks (Nat.le_of_ble_eq_true rfl) (Nat.le_of_ble_eq_true rfl) hP hS ⟨rfl, rfl⟩ d_BL_told_115
    · refine lv_tableIn (off := 115) (tgt := 116) hx hb d_BL_told_1 (by decide) (by decide) (by decide) (by decide) ?_
      refine lv_aload_n hx hb d_BL_told_116 rfl (lv_at hl 0 rfl) ?_
      refine fh_get hx hb hG C_BL iG_BL hown hK hP hb0 1 (by decide) gm131 rfl d_BL_told_117 ?_
      refine fh_get hx hb hG C_DK iG_DK hown hK hP hd0 2 (by decide) gm91 rfl d_BL_told_120 ?_
      refine fh_callV (C := R_CS) (y := y_CS_size) (bytes := b_CS_size) (maxL := 1) (ret := (some .int)) (index := 73) (As := []) (rest := []) ⟨hx, hb, hml, hown, hG⟩ (c_CS_size l E h cs cal carr cps hC (by omega)) (cwV 0 hG (gV gm428 gm241 gm242 gm2 gm243) rfl rfl rfl ⟨rfl, hdy_CS_size⟩ ⟨Nat.le_of_ble_eq_true rfl, Nat.le_of_ble_eq_true rfl⟩) C_CS.1 kcs hK hZ hP hS hA rfl hl.1 rfl (Nat.le_of_ble_eq_true rfl) d_BL_told_123 ⟨Nat.le_of_ble_eq_true rfl, Nat.le_of_ble_eq_true rfl⟩ (fun r h1 H locs hq9 hP hS => ?_)
      obtain ⟨rfl, e9⟩ := hq9
      rw [e9] at hP
      refine W.eq (g2 := F0 m 126 ls [.int (nI cps.length)]) rfl ?_
      exact fh_iret hx hb hr hlocks (Nat.le_of_ble_eq_true rfl) (Nat.le_of_ble_eq_true rfl) hP hS ⟨rfl, rfl⟩ d_BL_told_126
    · refine lv_tableIn (off := 126) (tgt := 127) hx hb d_BL_told_1 (by decide) (by decide) (by decide) (by decide) ?_
      refine lv_aload_n hx hb d_BL_told_127 rfl (lv_at hl 0 rfl) ?_
      refine fh_get hx hb hG C_BL iG_BL hown hK hP hb0 0 (by decide) gm130 rfl d_BL_told_128 ?_
      refine fh_callV (C := R_CS) (y := y_CS_size) (bytes := b_CS_size) (maxL := 1) (ret := (some .int)) (index := 73) (As := []) (rest := []) ⟨hx, hb, hml, hown, hG⟩ (c_CS_size l E h bcs bal barr bps hBC (by omega)) (cwV 0 hG (gV gm428 gm241 gm242 gm2 gm243) rfl rfl rfl ⟨rfl, hdy_CS_size⟩ ⟨Nat.le_of_ble_eq_true rfl, Nat.le_of_ble_eq_true rfl⟩) C_CS.1 kbc hK hZ hP hS hA rfl hl.1 rfl (Nat.le_of_ble_eq_true rfl) d_BL_told_131 ⟨Nat.le_of_ble_eq_true rfl, Nat.le_of_ble_eq_true rfl⟩ (fun r h1 H locs hq9 hP hS => ?_)
      obtain ⟨rfl, e9⟩ := hq9
      rw [e9] at hP
      refine W.eq (g2 := F0 m 134 ls [.int (nI bps.length)]) rfl ?_
      exact fh_iret hx hb hr hlocks (Nat.le_of_ble_eq_true rfl) (Nat.le_of_ble_eq_true rfl) hP hS ⟨rfl, rfl⟩ d_BL_told_134
    · refine lv_tableIn (off := 134) (tgt := 135) hx hb d_BL_told_1 (by decide) (by decide) (by decide) (by decide) ?_
      refine lv_aload_n hx hb d_BL_told_135 rfl (lv_at hl 0 rfl) ?_
      refine fh_get hx hb hG C_BL iG_BL hown hK hP hb0 3 (by decide) gm133 rfl d_BL_told_136 ?_
      exact fh_iret hx hb hr hlocks (Nat.le_of_ble_eq_true rfl) (Nat.le_of_ble_eq_true rfl) hP hS ⟨rfl, rfl⟩ d_BL_told_139
    · refine lv_tableIn (off := 139) (tgt := 140) hx hb d_BL_told_1 (by decide) (by decide) (by decide) (by decide) ?_
      refine lv_aload_n hx hb d_BL_told_140 rfl (lv_at hl 0 rfl) ?_
      refine fh_get hx hb hG C_BL iG_BL hown hK hP hb0 4 (by decide) gm134 rfl d_BL_told_141 ?_
      exact fh_iret hx hb hr hlocks (Nat.le_of_ble_eq_true rfl) (Nat.le_of_ble_eq_true rfl) hP hS ⟨rfl, rfl⟩ d_BL_told_144
    · refine lv_tableIn (off := 144) (tgt := 145) hx hb d_BL_told_1 (by decide) (by decide) (by decide) (by decide) ?_
      refine lv_aload_n hx hb d_BL_told_145 rfl (lv_at hl 0 rfl) ?_
      refine fh_get hx hb hG C_BL iG_BL hown hK hP hb0 5 (by decide) gm135 rfl d_BL_told_146 ?_
      exact fh_iret hx hb hr hlocks (Nat.le_of_ble_eq_true rfl) (Nat.le_of_ble_eq_true rfl) hP hS ⟨rfl, rfl⟩ d_BL_told_149
    · refine lv_tableIn (off := 149) (tgt := 150) hx hb d_BL_told_1 (by decide) (by decide) (by decide) (by decide) ?_
      refine lv_aload_n hx hb d_BL_told_150 rfl (lv_at hl 0 rfl) ?_
      refine fh_get hx hb hG C_BL iG_BL hown hK hP hb0 6 (by decide) gm136 rfl d_BL_told_151 ?_
      exact fh_iret hx hb hr hlocks (Nat.le_of_ble_eq_true rfl) (Nat.le_of_ble_eq_true rfl) hP hS ⟨rfl, rfl⟩ d_BL_told_154
    · refine lv_tableIn (off := 154) (tgt := 155) hx hb d_BL_told_1 (by decide) (by decide) (by decide) (by decide) ?_
      refine lv_aload_n hx hb d_BL_told_155 rfl (lv_at hl 0 rfl) ?_
      refine fh_get hx hb hG C_BL iG_BL hown hK hP hb0 1 (by decide) gm131 rfl d_BL_told_156 ?_
      refine fh_get hx hb hG C_DK iG_DK hown hK hP hd0 9 (by decide) gm103 rfl d_BL_told_159 ?_
      exact fh_iret hx hb hr hlocks (Nat.le_of_ble_eq_true rfl) (Nat.le_of_ble_eq_true rfl) hP hS ⟨rfl, rfl⟩ d_BL_told_162
    · refine lv_tableIn (off := 162) (tgt := 163) hx hb d_BL_told_1 (by decide) (by decide) (by decide) (by decide) ?_
      refine lv_aload_n hx hb d_BL_told_163 rfl (lv_at hl 0 rfl) ?_
      refine fh_get hx hb hG C_BL iG_BL hown hK hP hb0 1 (by decide) gm131 rfl d_BL_told_164 ?_
      refine fh_get hx hb hG C_DK iG_DK hown hK hP hd0 10 (by decide) gm105 rfl d_BL_told_167 ?_
      exact fh_iret hx hb hr hlocks (Nat.le_of_ble_eq_true rfl) (Nat.le_of_ble_eq_true rfl) hP hS ⟨rfl, rfl⟩ d_BL_told_170
  · refine lv_tableOut (tgt := 171) hx hb d_BL_told_1 (hw.imp id (fun z => by omega)) (by decide) ?_
    refine lv_iconst (v := (-1)) hx hb d_BL_told_171 (by decide) ?_
    exact fh_iret hx hb hr hlocks (Nat.le_of_ble_eq_true rfl) (Nat.le_of_ble_eq_true rfl) hP hS ⟨by rw [tdT_out hw], rfl⟩ d_BL_told_172

theorem BLs.upD {E : fh_E} {h h1 : fh_H} {bl bcs bal barr dk qu qal qarr med cs cal carr : Nat} {bps : List tC} {rqs : List tQ} {mf : Nat → Int32} {cps : List tC} {sv : Option tQ} {ul tm hd up wy sd il nn hi mi ev ab ul2 tm2 hd2 up2 wy2 sd2 il2 : Int32}
    (hS : BLs E h bl bcs bal barr dk qu qal qarr med cs cal carr bps rqs mf cps sv ul tm hd up wy sd il nn hi mi ev ab) (hed : h (fh_ed E) = none) (hq : h1 = va_up h dk (some (.inr (5, [.ref qu, .ref med, .ref cs, va_rf (sv.map (·.1)), .int ul2, .int tm2, .int hd2, .int up2, .int wy2, .int sd2, .int il2])))) : BLs E h1 bl bcs bal barr dk qu qal qarr med cs cal carr bps rqs mf cps sv ul2 tm2 hd2 up2 wy2 sd2 il2 nn hi mi ev ab := by
  obtain ⟨hb0, hBC, hDK, a1, a2, a3, a4, a5, a6⟩ := hS
  have hd0 := hDK.1
  obtain ⟨mda, kal⟩ := hBC.2.1.al
  have hF : Fr h h1 (fun b => b = dk) := fun b e hb n => by rw [hq, va_up_ne _ _ n]; exact hb
  refine ⟨hF _ _ hb0 (fh_ne hb0 hd0 (by decide)), hBC.keep hF (fh_ne hBC.1 hd0 (by decide)) (fh_ne kal hd0 (by decide)) (fun e he z => hBC.2.1.neO hed hd0 z.symm) (fun r hr => fh_ne (hBC.2.2 r hr) hd0 (by decide)), hDK.up hed (fun _ z => z) hq, a1, a2, a3, fun x hx => ?_, a5, a6⟩
  by_cases z : barr = dk
  · exact absurd z.symm (hBC.2.1.neO hed hd0)
  · rw [hq, va_up_ne _ _ z] at hx; exact a4 x hx

set_option maxHeartbeats 4000000 in
set_option maxRecDepth 100000 in
theorem c_BL_policy (l : Launch) (E : fh_E) (h : fh_H) (bl bcs bal barr dk qu qal qarr med cs cal carr : Nat) (bps : List tC) (rqs : List tQ) (mf : Nat → Int32) (cps : List tC) (sv : Option tQ) (ul tm hd up wy sd il nn hi mi ev ab : Int32) (hS0 : BLs E h bl bcs bal barr dk qu qal qarr med cs cal carr bps rqs mf cps sv ul tm hd up wy sd il nn hi mi ev ab) (n : Nat) (hn : n < 5) : fh_Met l y_BL_policy w_BL_policy ({ frames := 6, cells := 1, slots := 6, locals := 82 }) E [.ref bl, .int (nI n)] h (fun r h1 => r = some (.int wy) ∧ BLs E h1 bl bcs bal barr dk qu qal qarr med cs cal carr bps rqs mf cps sv ul tm hd up (nI n) sd il nn hi mi ev ab ∧ Fr h h1 (fun b => b = dk) ∧ Dm h h1) 1 6 := by
  refine fh_ofW (cc := b_BL_policy) (maxL := 3) (ret := (some .int)) (by decide) rfl (Nat.le_of_ble_eq_true rfl) ?_
  intro p e s m below meth c A ls hx hb hr hml hown hts hlocks hname hnoh hadm hA hK hZ hP hS hl
  have hG : ∀ w ∈ G, w.before _ s = true := fun w hw => hts w (List.mem_cons_of_mem _ hw)
  have hown : s.vm.findClass R_BL = some m.cls := hown
  have hl : lv_has ls 3 [(0, .ref bl), (1, .int (nI n))] := hl
  have hS1 := hS0
  obtain ⟨hb0, hBC, hDK, hap⟩ := hS0
  have hDK0 := hDK
  obtain ⟨hd0, hQ, hm, hC, hsv, hnd, hqc, hqa⟩ := hDK
  have kqu := hQ.1
  have kcs := hC.1
  have kbc := hBC.1
  have hed := hZ.edn hP
  refine lv_iload_n hx hb d_BL_policy_0 rfl (lv_at hl 1 rfl) ?_
  refine lv_if_lt (tgt := 9) hx hb d_BL_policy_1 (by decide) (fun c_1 => ?_) (fun c_1 => ?_)
  · skip
    exact absurd c_1 (nI_pos (by omega))
  · skip
    refine lv_iload_n hx hb d_BL_policy_4 rfl (lv_at hl 1 rfl) ?_
    refine lv_iconst (v := 4) hx hb d_BL_policy_5 (by decide) ?_
    refine lv_icmp_le (tgt := 19) hx hb d_BL_policy_6 (by decide) (fun c_2 => ?_) (fun c_2 => ?_)
    · skip
      refine lv_aload_n hx hb d_BL_policy_19 rfl (lv_at hl 0 rfl) ?_
      refine fh_get hx hb hG C_BL iG_BL hown hK hP hb0 1 (by decide) gm131 rfl d_BL_policy_20 ?_
      refine fh_get hx hb hG C_DK iG_DK hown hK hP hd0 8 (by decide) gm101 rfl d_BL_policy_23 ?_
      refine lv_istore_n (lv' := [(2, .int wy), (0, .ref bl), (1, .int (nI n))]) hx hb d_BL_policy_26 rfl hl (by decide) rfl (fun ls hl => ?_)
      refine lv_aload_n hx hb d_BL_policy_27 rfl (lv_at hl 1 rfl) ?_
      refine fh_get hx hb hG C_BL iG_BL hown hK hP hb0 1 (by decide) gm131 rfl d_BL_policy_28 ?_
      refine lv_iload_n hx hb d_BL_policy_31 rfl (lv_at hl 2 rfl) ?_
      refine fh_put hx hb hG C_DK iG_DK hown hK hP hS hd0 8 (by decide) gm101 rfl (v := .int (nI n)) rfl rfl (Nat.le_of_ble_eq_true rfl) d_BL_policy_32 (fun H locs hP hS => ?_)
      obtain ⟨h_3, eh_4⟩ : ∃ z : fh_H, z = va_up h dk (some (.inr (5, [.ref qu, .ref med, .ref cs, va_rf (sv.map (·.1)), .int ul, .int tm, .int hd, .int up, .int (nI n), .int sd, .int il]))) := ⟨_, rfl⟩
      have hP : fh_P E.1 vwCl A h_3 H := by rw [eh_4]; exact hP
      have k_5 : h_3 bl = some (.inr (6, [.ref bcs, .ref dk, .int nn, .int hi, .int mi, .int ev, .int ab])) := by rw [eh_4]; exact fh_up hb0 (fh_ne hb0 hd0 (by decide))
      have k_6 : h_3 qu = some (.inr (4, [.ref qal])) := by rw [eh_4]; exact fh_up kqu (fh_ne kqu hd0 (by decide))
      have k_7 : h_3 cs = some (.inr (2, [.ref cal])) := by rw [eh_4]; exact fh_up kcs (fh_ne kcs hd0 (by decide))
      have k_8 : h_3 bcs = some (.inr (2, [.ref bal])) := by rw [eh_4]; exact fh_up kbc (fh_ne kbc hd0 (by decide))
      have k_9 : h_3 dk = some (.inr (5, [.ref qu, .ref med, .ref cs, va_rf (sv.map (·.1)), .int ul, .int tm, .int hd, .int up, .int (nI n), .int sd, .int il])) := by rw [eh_4]; exact va_up_self _ _ _
      refine lv_iload_n hx hb d_BL_policy_35 rfl (lv_at hl 0 rfl) ?_
      exact fh_iret hx hb hr hlocks (Nat.le_of_ble_eq_true rfl) (Nat.le_of_ble_eq_true rfl) hP hS ⟨rfl, hS1.upD hed eh_4, fun b e hb n => by rw [eh_4, va_up_ne _ _ n]; exact hb, dm_up eh_4⟩ d_BL_policy_36
    · skip
      exact absurd (show nI n ≤ nI 4 from nI_le (by omega) (by decide)) c_2

set_option maxHeartbeats 4000000 in
set_option maxRecDepth 100000 in
theorem t_BL_policy (l : Launch) (E : fh_E) (h : fh_H) (hfl : l.flags = pinnedFlags ++ [noTraceFlag]) (bl : Nat) (b : Int32) (hn : b.toInt < 0 ∨ (5 : Int) ≤ b.toInt) : th_M l y_BL_policy w_BL_policy ({ frames := 6, cells := 1, slots := 6, locals := 82 }) E [.ref bl, .int b] h xIAE 1 6 := by
  refine th_ofWh (cc := b_BL_policy) (maxL := 3) (ret := (some .int)) (by decide) rfl (Nat.le_of_ble_eq_true rfl) ?_
  intro p e s m below meth c A ls hx hb hr hml hown hts hlocks hname hnoh hadm hA hK hZ hP hS hl
  have hG : ∀ w ∈ G, w.before _ s = true := fun w hw => hts w (List.mem_cons_of_mem _ hw)
  have hown : s.vm.findClass R_BL = some m.cls := hown
  have hl : lv_has ls 3 [(0, .ref bl), (1, .int b)] := hl
  refine lv_iload_n hx hb d_BL_policy_0 rfl (lv_at hl 1 rfl) ?_
  refine lv_if_lt (tgt := 9) hx hb d_BL_policy_1 (by decide) (fun c_1 => ?_) (fun c_1 => ?_)
  · skip
    exact th_go (tx := "a policy is 0 to 4") hx hb (hml.trans hl.1.symm) hown hfl hadm thIn_iae (by simp [fhCast]) (by decide +kernel) gm618 gm22 (by simp [fhTxt]) hnoh hlocks hZ hG hP hA ⟨Nat.le_of_ble_eq_true rfl, Nat.le_of_ble_eq_true rfl, Nat.le_of_ble_eq_true rfl, Nat.le_of_ble_eq_true rfl⟩ d_BL_policy_9 d_BL_policy_12 d_BL_policy_13 d_BL_policy_15 d_BL_policy_18 (Nat.le_of_ble_eq_true rfl) (Nat.le_of_ble_eq_true rfl)
  · skip
    refine lv_iload_n hx hb d_BL_policy_4 rfl (lv_at hl 1 rfl) ?_
    refine lv_iconst (v := 4) hx hb d_BL_policy_5 (by decide) ?_
    refine lv_icmp_le (tgt := 19) hx hb d_BL_policy_6 (by decide) (fun c_2 => ?_) (fun c_2 => ?_)
    · skip
      exfalso
      rw [show (4 : Int32) = nI 4 from rfl, Int32.le_iff_toInt_le, nI_toInt (by decide)] at c_2
      rw [show (0 : Int32) = nI 0 from rfl, lt_nat (by decide)] at c_1
      omega
    · skip
      exact th_go (tx := "a policy is 0 to 4") hx hb (hml.trans hl.1.symm) hown hfl hadm thIn_iae (by simp [fhCast]) (by decide +kernel) gm618 gm22 (by simp [fhTxt]) hnoh hlocks hZ hG hP hA ⟨Nat.le_of_ble_eq_true rfl, Nat.le_of_ble_eq_true rfl, Nat.le_of_ble_eq_true rfl, Nat.le_of_ble_eq_true rfl⟩ d_BL_policy_9 d_BL_policy_12 d_BL_policy_13 d_BL_policy_15 d_BL_policy_18 (Nat.le_of_ble_eq_true rfl) (Nat.le_of_ble_eq_true rfl)
