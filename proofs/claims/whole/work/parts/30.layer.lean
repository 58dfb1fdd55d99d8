/-! THE LAYER: what it tells, what it refuses. -/
theorem sw_in {n : Nat} (hn : n ≤ 100000) (w : Int32) : (∃ k : Nat, k < n ∧ w = nI k) ∨ w.toInt < 0 ∨ (n : Int) ≤ w.toInt := by
  by_cases h0 : w.toInt < 0
  · exact Or.inr (Or.inl h0)
  · by_cases h1 : (n : Int) ≤ w.toInt
    · exact Or.inr (Or.inr h1)
    · refine Or.inl ⟨w.toInt.toNat, by omega, ?_⟩
      refine Int32.toInt_inj.mp ?_
      rw [nI_toInt (by omega)]; omega
theorem lt_nat {a : Int32} {k : Nat} (hk : k < 2 ^ 31) : a < nI k ↔ a.toInt < (k : Int) := by
  rw [Int32.lt_iff_toInt_lt, nI_toInt hk]
/-- the layer as a whole -/
def BLs (E : fh_E) (h : fh_H) (bl bcs bal barr dk qu qal qarr med cs cal carr : Nat) (bps : List tC) (rqs : List tQ) (mf : Nat → Int32) (cps : List tC) (sv : Option tQ) (ul tm hd up wy sd il nn hi mi ev ab : Int32) : Prop :=
  h bl = some (.inr (6, [.ref bcs, .ref dk, .int nn, .int hi, .int mi, .int ev, .int ab])) ∧ CLs E h bcs bal barr bps ∧ DKs E h dk qu qal qarr med cs cal carr rqs mf cps sv ul tm hd up wy sd il ∧
  (bcs ≠ cs ∧ bal ≠ cal ∧ bal ≠ qal ∧ (∀ x, h barr = some x → barr ≠ carr ∧ barr ≠ qarr) ∧ (bps.map (·.1)).Nodup ∧ ∀ b ∈ bps, ∀ c ∈ cps, b.1 ≠ c.1)
/-- what reading a block would give -/
def nwv (bps : List tC) (rqs : List tQ) (mf : Nat → Int32) (cps : List tC) (sv : Option tQ) (b : Int32) : Int32 :=
  match bps.find? (fun c => c.2.1 == b) with
  | some c => c.2.2.1
  | none => match rqs.reverse.find? (fun c => c.2.2.1 == 1 && c.2.2.2.1 == b) with
    | some r => r.2.2.2.2.2
    | none => vas mf cps sv b
theorem atI_mem {α : Type} {xs : List α} {i : Int32} {c : α} (h : atI xs i = some c) : c ∈ xs := by
  unfold atI at h
  by_cases z : i < 0
  · rw [if_pos z] at h; cases h
  · rw [if_neg z] at h; exact List.mem_of_getElem? h

set_option maxHeartbeats 4000000 in
set_option maxRecDepth 100000 in
theorem c_BL_requireBlock (l : Launch) (E : fh_E) (h : fh_H) (n : Nat) (hn : n < 256) : fh_Met l y_BL_requireBlock w_BL_requireBlock ({ frames := 6, cells := 1, slots := 6, locals := 82 }) E [.int (nI n)] h (fun r h1 => r = none ∧ h1 = h) 1 6 := by
  refine fh_ofW (cc := b_BL_requireBlock) (maxL := 1) (ret := none) (by decide) rfl (Nat.le_of_ble_eq_true rfl) ?_
  intro p e s m below meth c A ls hx hb hr hml hown hts hlocks hname hnoh hadm hA hK hZ hP hS hl
  have hG : ∀ w ∈ G, w.before _ s = true := fun w hw => hts w (List.mem_cons_of_mem _ hw)
  have hown : s.vm.findClass R_BL = some m.cls := hown
  have hl : lv_has ls 1 [(0, .int (nI n))] := hl
  refine lv_iload_n hx hb d_BL_requireBlock_0 rfl (lv_at hl 0 rfl) ?_
  refine lv_if_lt (tgt := 11) hx hb d_BL_requireBlock_1 (by decide) (fun c_1 => ?_) (fun c_1 => ?_)
  · skip
    exact absurd c_1 (nI_pos (by omega))
  · skip
    refine lv_iload_n hx hb d_BL_requireBlock_4 rfl (lv_at hl 0 rfl) ?_
    refine lv_sipush (v := 256) hx hb d_BL_requireBlock_5 (by decide) ?_
    refine lv_icmp_lt (tgt := 21) hx hb d_BL_requireBlock_8 (by decide) (fun c_2 => ?_) (fun c_2 => ?_)
    · skip
      exact fh_vret hx hb hr hlocks (Nat.le_of_ble_eq_true rfl) (Nat.le_of_ble_eq_true rfl) hP hS ⟨rfl, rfl⟩ d_BL_requireBlock_21
    · skip
      exact absurd (show nI n < nI 256 from nI_lt hn (by decide)) c_2

set_option maxHeartbeats 4000000 in
set_option maxRecDepth 100000 in
theorem t_BL_requireBlock (l : Launch) (E : fh_E) (h : fh_H) (hfl : l.flags = pinnedFlags ++ [noTraceFlag]) (b : Int32) (hn : b.toInt < 0 ∨ (256 : Int) ≤ b.toInt) : th_M l y_BL_requireBlock w_BL_requireBlock ({ frames := 6, cells := 1, slots := 6, locals := 82 }) E [.int b] h xIOB 1 6 := by
  refine th_ofWh (cc := b_BL_requireBlock) (maxL := 1) (ret := none) (by decide) rfl (Nat.le_of_ble_eq_true rfl) ?_
  intro p e s m below meth c A ls hx hb hr hml hown hts hlocks hname hnoh hadm hA hK hZ hP hS hl
  have hG : ∀ w ∈ G, w.before _ s = true := fun w hw => hts w (List.mem_cons_of_mem _ hw)
  have hown : s.vm.findClass R_BL = some m.cls := hown
  have hl : lv_has ls 1 [(0, .int b)] := hl
  refine lv_iload_n hx hb d_BL_requireBlock_0 rfl (lv_at hl 0 rfl) ?_
  refine lv_if_lt (tgt := 11) hx hb d_BL_requireBlock_1 (by decide) (fun c_1 => ?_) (fun c_1 => ?_)
  · skip
    exact th_go (tx := "there is no such block") hx hb (hml.trans hl.1.symm) hown hfl hadm thIn_iob (by simp [fhCast]) (by decide +kernel) gm441 gm12 (by simp [fhTxt]) hnoh hlocks hZ hG hP hA ⟨Nat.le_of_ble_eq_true rfl, Nat.le_of_ble_eq_true rfl, Nat.le_of_ble_eq_true rfl, Nat.le_of_ble_eq_true rfl⟩ d_BL_requireBlock_11 d_BL_requireBlock_14 d_BL_requireBlock_15 d_BL_requireBlock_17 d_BL_requireBlock_20 (Nat.le_of_ble_eq_true rfl) (Nat.le_of_ble_eq_true rfl)
  · skip
    refine lv_iload_n hx hb d_BL_requireBlock_4 rfl (lv_at hl 0 rfl) ?_
    refine lv_sipush (v := 256) hx hb d_BL_requireBlock_5 (by decide) ?_
    refine lv_icmp_lt (tgt := 21) hx hb d_BL_requireBlock_8 (by decide) (fun c_2 => ?_) (fun c_2 => ?_)
    · skip
      exfalso
      rw [show (256 : Int32) = nI 256 from rfl, lt_nat (by decide)] at c_2
      rw [show (0 : Int32) = nI 0 from rfl, lt_nat (by decide)] at c_1
      omega
    · skip
      exact th_go (tx := "there is no such block") hx hb (hml.trans hl.1.symm) hown hfl hadm thIn_iob (by simp [fhCast]) (by decide +kernel) gm441 gm12 (by simp [fhTxt]) hnoh hlocks hZ hG hP hA ⟨Nat.le_of_ble_eq_true rfl, Nat.le_of_ble_eq_true rfl, Nat.le_of_ble_eq_true rfl, Nat.le_of_ble_eq_true rfl⟩ d_BL_requireBlock_11 d_BL_requireBlock_14 d_BL_requireBlock_15 d_BL_requireBlock_17 d_BL_requireBlock_20 (Nat.le_of_ble_eq_true rfl) (Nat.le_of_ble_eq_true rfl)

set_option maxHeartbeats 4000000 in
set_option maxRecDepth 100000 in
theorem p_AL_size (l : Launch) (E : fh_E) (h : fh_H) (al : Nat) (ar : Value) (sz md : Int32) (ha : h al = some (.inr (0, [ar, .int sz, .int md]))) : fh_MP l y_AL_size w_AL_size ({ frames := 0, cells := 0, slots := 0, locals := 0 }) E [.ref al] h (fun r => r = some (.int sz)) := by
  refine fh_ofWP (cc := b_AL_size) (maxL := 1) (ret := (some .int)) (by decide) rfl (Nat.le_of_ble_eq_true rfl) ?_
  intro p e s m below meth c A ls hx hb hr hml hown hts hlocks hname hnoh hadm hA hK hZ hP hS hl
  have hG : ∀ w ∈ G, w.before _ s = true := fun w hw => hts w (List.mem_cons_of_mem _ hw)
  have hown : s.vm.findClass R_AL = some m.cls := hown
  have hl : lv_has ls 1 [(0, .ref al)] := hl
  refine lv_aload_n hx hb d_AL_size_0 rfl (lv_at hl 0 rfl) ?_
  refine fh_get hx hb hG C_AL iG_AL hown hK hP ha 1 (by decide) gm52 rfl d_AL_size_1 ?_
  exact fh_iretP hx hb hr hlocks rfl d_AL_size_4

set_option maxHeartbeats 4000000 in
set_option maxRecDepth 100000 in
theorem p_QU_size (l : Launch) (E : fh_E) (h : fh_H) (qu al arr : Nat) (rqs : List tQ) (hC : QLs E h qu al arr rqs) : fh_MP l y_QU_size w_QU_size ({ frames := 1, cells := 0, slots := 0, locals := 20 }) E [.ref qu] h (fun r => r = some (.int (nI rqs.length))) := by
  refine fh_ofWP (cc := b_QU_size) (maxL := 1) (ret := (some .int)) (by decide) rfl (Nat.le_of_ble_eq_true rfl) ?_
  intro p e s m below meth c A ls hx hb hr hml hown hts hlocks hname hnoh hadm hA hK hZ hP hS hl
  have hG : ∀ w ∈ G, w.before _ s = true := fun w hw => hts w (List.mem_cons_of_mem _ hw)
  have hown : s.vm.findClass R_QU = some m.cls := hown
  have hl : lv_has ls 1 [(0, .ref qu)] := hl
  obtain ⟨hc, hL, hP1⟩ := hC
  obtain ⟨md, ha⟩ := hL.al
  rw [mp_len] at ha
  refine lv_aload_n hx hb d_QU_size_0 rfl (lv_at hl 0 rfl) ?_
  refine fh_get hx hb hG C_QU iG_QU hown hK hP hc 0 (by decide) gm81 rfl d_QU_size_1 ?_
  refine fh_callVP (C := R_AL) (y := y_AL_size) (bytes := b_AL_size) (maxL := 1) (ret := (some .int)) (index := 18) (As := []) (rest := []) ⟨hx, hb, hml, hown, hG⟩ (p_AL_size l E h al (.ref arr) (nI rqs.length) md ha) (cwV 0 hG (gV gm164 gm165 gm166 gm5 gm167) rfl rfl rfl ⟨rfl, hdy_AL_size⟩ ⟨Nat.le_of_ble_eq_true rfl, Nat.le_of_ble_eq_true rfl⟩) C_AL.1 ha hK hZ hP hA rfl hl.1 rfl (Nat.le_of_ble_eq_true rfl) d_QU_size_4 ⟨Nat.le_of_ble_eq_true rfl, Nat.le_of_ble_eq_true rfl⟩ (fun r hq9 => ?_)
  subst hq9
  refine W.eq (g2 := F0 m 7 ls [.int (nI rqs.length)]) rfl ?_
  exact fh_iretP hx hb hr hlocks rfl d_QU_size_7

set_option maxHeartbeats 4000000 in
set_option maxRecDepth 100000 in
theorem c_BL_requireQueueRoom (l : Launch) (E : fh_E) (h : fh_H) (bl bcs bal barr dk qu qal qarr med cs cal carr : Nat) (bps : List tC) (rqs : List tQ) (mf : Nat → Int32) (cps : List tC) (sv : Option tQ) (ul tm hd up wy sd il nn hi mi ev ab : Int32) (hS0 : BLs E h bl bcs bal barr dk qu qal qarr med cs cal carr bps rqs mf cps sv ul tm hd up wy sd il nn hi mi ev ab) (hq41 : rqs.length ≤ 41) (k : Nat) (hk : rqs.length + k ≤ 40) : fh_Met l y_BL_requireQueueRoom w_BL_requireQueueRoom ({ frames := 6, cells := 1, slots := 6, locals := 82 }) E [.ref bl, .int (nI k)] h (fun r h1 => r = none ∧ h1 = h) 1 6 := by
  refine fh_ofW (cc := b_BL_requireQueueRoom) (maxL := 2) (ret := none) (by decide) rfl (Nat.le_of_ble_eq_true rfl) ?_
  intro p e s m below meth c A ls hx hb hr hml hown hts hlocks hname hnoh hadm hA hK hZ hP hS hl
  have hG : ∀ w ∈ G, w.before _ s = true := fun w hw => hts w (List.mem_cons_of_mem _ hw)
  have hown : s.vm.findClass R_BL = some m.cls := hown
  have hl : lv_has ls 2 [(0, .ref bl), (1, .int (nI k))] := hl
  have hS1 := hS0
  obtain ⟨hb0, hBC, hDK, hap⟩ := hS0
  have hDK0 := hDK
  obtain ⟨hd0, hQ, hm, hC, hsv, hnd, hqc, hqa⟩ := hDK
  have kqu := hQ.1
  have kcs := hC.1
  have kbc := hBC.1
  refine lv_aload_n hx hb d_BL_requireQueueRoom_0 rfl (lv_at hl 0 rfl) ?_
  refine fh_get hx hb hG C_BL iG_BL hown hK hP hb0 1 (by decide) gm131 rfl d_BL_requireQueueRoom_1 ?_
  refine fh_get hx hb hG C_DK iG_DK hown hK hP hd0 0 (by decide) gm88 rfl d_BL_requireQueueRoom_4 ?_
  refine fh_callV (C := R_QU) (y := y_QU_size) (bytes := b_QU_size) (maxL := 1) (ret := (some .int)) (index := 155) (As := []) (rest := []) ⟨hx, hb, hml, hown, hG⟩ (c_QU_size l E h qu qal qarr rqs hQ (by omega)) (cwV 0 hG (gV gm427 gm161 gm162 gm7 gm163) rfl rfl rfl ⟨rfl, hdy_QU_size⟩ ⟨Nat.le_of_ble_eq_true rfl, Nat.le_of_ble_eq_true rfl⟩) C_QU.1 kqu hK hZ hP hS hA rfl hl.1 rfl (Nat.le_of_ble_eq_true rfl) d_BL_requireQueueRoom_7 ⟨Nat.le_of_ble_eq_true rfl, Nat.le_of_ble_eq_true rfl⟩ (fun r h1 H locs hq9 hP hS => ?_)
  obtain ⟨rfl, e9⟩ := hq9
  rw [e9] at hP
  refine W.eq (g2 := F0 m 10 ls [.int (nI rqs.length)]) rfl ?_
  refine lv_iload_n hx hb d_BL_requireQueueRoom_10 rfl (lv_at hl 1 rfl) ?_
  refine lv_iadd hx hb d_BL_requireQueueRoom_11 ?_
  refine lv_bipush (v := 40) hx hb d_BL_requireQueueRoom_12 (by decide) ?_
  refine lv_icmp_le (tgt := 27) hx hb d_BL_requireQueueRoom_14 (by decide) (fun c_1 => ?_) (fun c_1 => ?_)
  · skip
    exact fh_vret hx hb hr hlocks (Nat.le_of_ble_eq_true rfl) (Nat.le_of_ble_eq_true rfl) hP hS ⟨rfl, rfl⟩ d_BL_requireQueueRoom_27
  · skip
    exact absurd (show nI rqs.length + nI k ≤ nI 40 by rw [nI_add]; exact nI_le hk (by decide)) c_1

set_option maxHeartbeats 4000000 in
set_option maxRecDepth 100000 in
theorem t_BL_requireQueueRoom (l : Launch) (E : fh_E) (h : fh_H) (hfl : l.flags = pinnedFlags ++ [noTraceFlag]) (bl bcs bal barr dk qu qal qarr med cs cal carr : Nat) (bps : List tC) (rqs : List tQ) (mf : Nat → Int32) (cps : List tC) (sv : Option tQ) (ul tm hd up wy sd il nn hi mi ev ab : Int32) (hS0 : BLs E h bl bcs bal barr dk qu qal qarr med cs cal carr bps rqs mf cps sv ul tm hd up wy sd il nn hi mi ev ab) (hq41 : rqs.length ≤ 41) (k : Nat) (hk : 40 < rqs.length + k) (hk2 : k ≤ 100) : th_M l y_BL_requireQueueRoom w_BL_requireQueueRoom ({ frames := 6, cells := 1, slots := 6, locals := 82 }) E [.ref bl, .int (nI k)] h xUOE 1 6 := by
  refine th_ofWh (cc := b_BL_requireQueueRoom) (maxL := 2) (ret := none) (by decide) rfl (Nat.le_of_ble_eq_true rfl) ?_
  intro p e s m below meth c A ls hx hb hr hml hown hts hlocks hname hnoh hadm hA hK hZ hP hS hl
  have hG : ∀ w ∈ G, w.before _ s = true := fun w hw => hts w (List.mem_cons_of_mem _ hw)
  have hown : s.vm.findClass R_BL = some m.cls := hown
  have hl : lv_has ls 2 [(0, .ref bl), (1, .int (nI k))] := hl
  have hS1 := hS0
  obtain ⟨hb0, hBC, hDK, hap⟩ := hS0
  have hDK0 := hDK
  obtain ⟨hd0, hQ, hm, hC, hsv, hnd, hqc, hqa⟩ := hDK
  have kqu := hQ.1
  have kcs := hC.1
  have kbc := hBC.1
  refine lv_aload_n hx hb d_BL_requireQueueRoom_0 rfl (lv_at hl 0 rfl) ?_
  refine fh_get hx hb hG C_BL iG_BL hown hK hP hb0 1 (by decide) gm131 rfl d_BL_requireQueueRoom_1 ?_
  refine fh_get hx hb hG C_DK iG_DK hown hK hP hd0 0 (by decide) gm88 rfl d_BL_requireQueueRoom_4 ?_
  refine fh_callVP (C := R_QU) (y := y_QU_size) (bytes := b_QU_size) (maxL := 1) (ret := (some .int)) (index := 155) (As := []) (rest := []) ⟨hx, hb, hml, hown, hG⟩ (p_QU_size l E h qu qal qarr rqs hQ) (cwV 0 hG (gV gm427 gm161 gm162 gm7 gm163) rfl rfl rfl ⟨rfl, hdy_QU_size⟩ ⟨Nat.le_of_ble_eq_true rfl, Nat.le_of_ble_eq_true rfl⟩) C_QU.1 kqu hK hZ hP hA rfl hl.1 rfl (Nat.le_of_ble_eq_true rfl) d_BL_requireQueueRoom_7 ⟨Nat.le_of_ble_eq_true rfl, Nat.le_of_ble_eq_true rfl⟩ (fun r hq9 => ?_)
  subst hq9
  refine W.eq (g2 := F0 m 10 ls [.int (nI rqs.length)]) rfl ?_
  refine lv_iload_n hx hb d_BL_requireQueueRoom_10 rfl (lv_at hl 1 rfl) ?_
  refine lv_iadd hx hb d_BL_requireQueueRoom_11 ?_
  refine lv_bipush (v := 40) hx hb d_BL_requireQueueRoom_12 (by decide) ?_
  refine lv_icmp_le (tgt := 27) hx hb d_BL_requireQueueRoom_14 (by decide) (fun c_1 => ?_) (fun c_1 => ?_)
  · skip
    exact absurd (show nI rqs.length + nI k ≤ nI 40 from c_1) (by rw [nI_add]; exact nI_ge hk (by omega))
  · skip
    exact th_go (tx := "the queue might have more than 40 requests") hx hb (hml.trans hl.1.symm) hown hfl hadm thIn_uoe (by simp [fhCast]) (by decide +kernel) gm513 gm13 (by simp [fhTxt]) hnoh hlocks hZ hG hP hA ⟨Nat.le_of_ble_eq_true rfl, Nat.le_of_ble_eq_true rfl, Nat.le_of_ble_eq_true rfl, Nat.le_of_ble_eq_true rfl⟩ d_BL_requireQueueRoom_17 d_BL_requireQueueRoom_20 d_BL_requireQueueRoom_21 d_BL_requireQueueRoom_23 d_BL_requireQueueRoom_26 (Nat.le_of_ble_eq_true rfl) (Nat.le_of_ble_eq_true rfl)

set_option maxHeartbeats 4000000 in
set_option maxRecDepth 100000 in
theorem c_BL_media (l : Launch) (E : fh_E) (h : fh_H) (bl bcs bal barr dk qu qal qarr med cs cal carr : Nat) (bps : List tC) (rqs : List tQ) (mf : Nat → Int32) (cps : List tC) (sv : Option tQ) (ul tm hd up wy sd il nn hi mi ev ab : Int32) (hS0 : BLs E h bl bcs bal barr dk qu qal qarr med cs cal carr bps rqs mf cps sv ul tm hd up wy sd il nn hi mi ev ab) (n : Nat) (hn : n < 256) : fh_Met l y_BL_media w_BL_media ({ frames := 7, cells := 1, slots := 6, locals := 102 }) E [.ref bl, .int (nI n)] h (fun r h1 => r = some (.int (mf n)) ∧ h1 = h) 1 6 := by
  refine fh_ofW (cc := b_BL_media) (maxL := 2) (ret := (some .int)) (by decide) rfl (Nat.le_of_ble_eq_true rfl) ?_
  intro p e s m below meth c A ls hx hb hr hml hown hts hlocks hname hnoh hadm hA hK hZ hP hS hl
  have hG : ∀ w ∈ G, w.before _ s = true := fun w hw => hts w (List.mem_cons_of_mem _ hw)
  have hown : s.vm.findClass R_BL = some m.cls := hown
  have hl : lv_has ls 2 [(0, .ref bl), (1, .int (nI n))] := hl
  have hS1 := hS0
  obtain ⟨hb0, hBC, hDK, hap⟩ := hS0
  have hDK0 := hDK
  obtain ⟨hd0, hQ, hm, hC, hsv, hnd, hqc, hqa⟩ := hDK
  have kqu := hQ.1
  have kcs := hC.1
  have kbc := hBC.1
  refine lv_iload_n hx hb d_BL_media_0 rfl (lv_at hl 1 rfl) ?_
  refine fh_callS (y := y_BL_requireBlock) (bytes := b_BL_requireBlock) (maxL := 1) (ret := none) (index := 23) (As := [.int (nI n)]) (rest := []) ⟨hx, hb, hml, hown, hG⟩ (c_BL_requireBlock l E h n hn) ⟨callB_of 1 hG (gB gm440) rfl rfl rfl (hG _ gm1) (hG _ gm438) hdy_BL_requireBlock ⟨Nat.le_of_ble_eq_true rfl, Nat.le_of_ble_eq_true rfl⟩, hG _ gm439⟩ hK hZ hP hS hA rfl hl.1 rfl (Nat.le_of_ble_eq_true rfl) d_BL_media_1 ⟨Nat.le_of_ble_eq_true rfl, Nat.le_of_ble_eq_true rfl⟩ (fun r h1 H locs hq9 hP hS => ?_)
  obtain ⟨rfl, e9⟩ := hq9
  rw [e9] at hP
  refine W.eq (g2 := F0 m 4 ls []) rfl ?_
  refine lv_aload_n hx hb d_BL_media_4 rfl (lv_at hl 0 rfl) ?_
  refine fh_get hx hb hG C_BL iG_BL hown hK hP hb0 1 (by decide) gm131 rfl d_BL_media_5 ?_
  refine lv_iload_n hx hb d_BL_media_8 rfl (lv_at hl 1 rfl) ?_
  refine fh_callV (C := R_DK) (y := y_DK_valueOnMedia) (bytes := b_DK_valueOnMedia) (maxL := 2) (ret := (some .int)) (index := 110) (As := [.int (nI n)]) (rest := []) ⟨hx, hb, hml, hown, hG⟩ (c_DK_valueOnMedia l E h dk qu med cs _ ul tm hd up wy sd il hd0 mf hm n hn) (cwV 1 hG (gV gm376 gm377 gm378 gm6 gm379) rfl rfl rfl ⟨rfl, hdy_DK_valueOnMedia⟩ ⟨Nat.le_of_ble_eq_true rfl, Nat.le_of_ble_eq_true rfl⟩) C_DK.1 hd0 hK hZ hP hS hA rfl hl.1 rfl (Nat.le_of_ble_eq_true rfl) d_BL_media_9 ⟨Nat.le_of_ble_eq_true rfl, Nat.le_of_ble_eq_true rfl⟩ (fun r h1 H locs hq9 hP hS => ?_)
  obtain ⟨rfl, e9⟩ := hq9
  rw [e9] at hP
  refine W.eq (g2 := F0 m 12 ls [.int (mf n)]) rfl ?_
  exact fh_iret hx hb hr hlocks (Nat.le_of_ble_eq_true rfl) (Nat.le_of_ble_eq_true rfl) hP hS ⟨rfl, rfl⟩ d_BL_media_12

set_option maxHeartbeats 4000000 in
set_option maxRecDepth 100000 in
theorem t_BL_media_b (l : Launch) (E : fh_E) (h : fh_H) (hfl : l.flags = pinnedFlags ++ [noTraceFlag]) (bl : Nat) (b : Int32) (hn : b.toInt < 0 ∨ (256 : Int) ≤ b.toInt) : th_M l y_BL_media w_BL_media ({ frames := 7, cells := 1, slots := 6, locals := 102 }) E [.ref bl, .int b] h xIOB 1 6 := by
  refine th_ofWh (cc := b_BL_media) (maxL := 2) (ret := (some .int)) (by decide) rfl (Nat.le_of_ble_eq_true rfl) ?_
  intro p e s m below meth c A ls hx hb hr hml hown hts hlocks hname hnoh hadm hA hK hZ hP hS hl
  have hG : ∀ w ∈ G, w.before _ s = true := fun w hw => hts w (List.mem_cons_of_mem _ hw)
  have hown : s.vm.findClass R_BL = some m.cls := hown
  have hl : lv_has ls 2 [(0, .ref bl), (1, .int b)] := hl
  refine lv_iload_n hx hb d_BL_media_0 rfl (lv_at hl 1 rfl) ?_
  exact th_callS (y := y_BL_requireBlock) (bytes := b_BL_requireBlock) (maxL := 1) (ret := none) (index := 23) (As := [.int b]) (rest := []) ⟨hx, hb, hml, hown, hG⟩ (t_BL_requireBlock l E h hfl b hn) ⟨callB_of 1 hG (gB gm440) rfl rfl rfl (hG _ gm1) (hG _ gm438) hdy_BL_requireBlock ⟨Nat.le_of_ble_eq_true rfl, Nat.le_of_ble_eq_true rfl⟩, hG _ gm439⟩ hK hZ hP hS hA rfl hl.1 rfl (Nat.le_of_ble_eq_true rfl) d_BL_media_1 ⟨Nat.le_of_ble_eq_true rfl, Nat.le_of_ble_eq_true rfl⟩ hnoh hlocks (Nat.le_of_ble_eq_true rfl) (Nat.le_of_ble_eq_true rfl)

set_option maxHeartbeats 4000000 in
set_option maxRecDepth 100000 in
theorem c_BL_newestOf (l : Launch) (E : fh_E) (h : fh_H) (bl bcs bal barr dk qu qal qarr med cs cal carr : Nat) (bps : List tC) (rqs : List tQ) (mf : Nat → Int32) (cps : List tC) (sv : Option tQ) (ul tm hd up wy sd il nn hi mi ev ab : Int32) (hS0 : BLs E h bl bcs bal barr dk qu qal qarr med cs cal carr bps rqs mf cps sv ul tm hd up wy sd il nn hi mi ev ab) (hb10 : bps.length ≤ 10) (hq41 : rqs.length ≤ 41) (hc6 : cps.length ≤ 6) (n : Nat) (hn : n < 256) : fh_Met l y_BL_newestOf w_BL_newestOf ({ frames := 6, cells := 0, slots := 0, locals := 129 }) E [.ref bl, .int (nI n)] h (fun r h1 => r = some (.int (nwv bps rqs mf cps sv (nI n))) ∧ h1 = h) 0 0 := by
  refine fh_ofW (cc := b_BL_newestOf) (maxL := 4) (ret := (some .int)) (by decide) rfl (Nat.le_of_ble_eq_true rfl) ?_
  intro p e s m below meth c A ls hx hb hr hml hown hts hlocks hname hnoh hadm hA hK hZ hP hS hl
  have hG : ∀ w ∈ G, w.before _ s = true := fun w hw => hts w (List.mem_cons_of_mem _ hw)
  have hown : s.vm.findClass R_BL = some m.cls := hown
  have hl : lv_has ls 4 [(0, .ref bl), (1, .int (nI n))] := hl
  have hS1 := hS0
  obtain ⟨hb0, hBC, hDK, hap⟩ := hS0
  have hDK0 := hDK
  obtain ⟨hd0, hQ, hm, hC, hsv, hnd, hqc, hqa⟩ := hDK
  have kqu := hQ.1
  have kcs := hC.1
  have kbc := hBC.1
  refine lv_aload_n hx hb d_BL_newestOf_0 rfl (lv_at hl 0 rfl) ?_
  refine fh_get hx hb hG C_BL iG_BL hown hK hP hb0 0 (by decide) gm130 rfl d_BL_newestOf_1 ?_
  refine lv_iload_n hx hb d_BL_newestOf_4 rfl (lv_at hl 1 rfl) ?_
  refine fh_callV (C := R_CS) (y := y_CS_copyOf) (bytes := b_CS_copyOf) (maxL := 3) (ret := (some (.object "BlockLayer$Copy"))) (index := 30) (As := [.int (nI n)]) (rest := []) ⟨hx, hb, hml, hown, hG⟩ (c_CS_copyOf l E h bcs bal barr bps hBC (by omega) (nI n)) (cwV 1 hG (gV gm367 gm261 gm262 gm2 gm263) rfl rfl rfl ⟨rfl, hdy_CS_copyOf⟩ ⟨Nat.le_of_ble_eq_true rfl, Nat.le_of_ble_eq_true rfl⟩) C_CS.1 kbc hK hZ hP hS hA rfl hl.1 rfl (Nat.le_of_ble_eq_true rfl) d_BL_newestOf_5 ⟨Nat.le_of_ble_eq_true rfl, Nat.le_of_ble_eq_true rfl⟩ (fun r h1 H locs hq9 hP hS => ?_)
  obtain ⟨rfl, e9⟩ := hq9
  rw [e9] at hP
  refine W.eq (g2 := F0 m 8 ls [va_rf ((bps.find? (fun c => c.2.1 == nI n)).map (·.1))]) rfl ?_
  cases hfd : bps.find? (fun c => c.2.1 == nI n) with
  | some c0 =>
    have kc := hBC.2.2 c0 (List.mem_of_find?_eq_some hfd)
    refine W.eq (g2 := F0 m 8 ls [.ref c0.1]) (rfl) ?_
    refine lv_astore_n (lv' := [(2, .ref c0.1), (0, .ref bl), (1, .int (nI n))]) hx hb d_BL_newestOf_8 rfl hl (by decide) rfl (fun ls hl => ?_)
    refine lv_aload_n hx hb d_BL_newestOf_9 rfl (lv_at hl 0 rfl) ?_
    refine lv_ifnull hx hb d_BL_newestOf_10 ?_
    refine lv_aload_n hx hb d_BL_newestOf_13 rfl (lv_at hl 0 rfl) ?_
    refine fh_get hx hb hG C_CP iG_CP hown hK hP kc 1 (by decide) gm277 rfl d_BL_newestOf_14 ?_
    exact fh_iret hx hb hr hlocks (Nat.le_of_ble_eq_true rfl) (Nat.le_of_ble_eq_true rfl) hP hS ⟨by unfold nwv; rw [hfd], rfl⟩ d_BL_newestOf_17
  | none =>
    refine W.eq (g2 := F0 m 8 ls [.null]) (rfl) ?_
    refine lv_astore_nN (lv' := [(2, .null), (0, .ref bl), (1, .int (nI n))]) hx hb d_BL_newestOf_8 rfl hl (by decide) rfl (fun ls hl => ?_)
    refine lv_aload_nN hx hb d_BL_newestOf_9 rfl (lv_at hl 0 rfl) ?_
    refine lv_ifnullN (tgt := 18) hx hb d_BL_newestOf_10 (by decide) ?_
    refine lv_aload_n hx hb d_BL_newestOf_18 rfl (lv_at hl 1 rfl) ?_
    refine fh_get hx hb hG C_BL iG_BL hown hK hP hb0 1 (by decide) gm131 rfl d_BL_newestOf_19 ?_
    refine fh_get hx hb hG C_DK iG_DK hown hK hP hd0 0 (by decide) gm88 rfl d_BL_newestOf_22 ?_
    refine lv_iload_n hx hb d_BL_newestOf_25 rfl (lv_at hl 2 rfl) ?_
    refine fh_callV (C := R_QU) (y := y_QU_lastWriteOf) (bytes := b_QU_lastWriteOf) (maxL := 4) (ret := (some (.object "BlockLayer$Request"))) (index := 200) (As := [.int (nI n)]) (rest := []) ⟨hx, hb, hml, hown, hG⟩ (c_QU_lastWriteOf l E h qu qal qarr rqs hQ (by omega) (nI n)) (cwV 1 hG (gV gm368 gm369 gm370 gm7 gm371) rfl rfl rfl ⟨rfl, hdy_QU_lastWriteOf⟩ ⟨Nat.le_of_ble_eq_true rfl, Nat.le_of_ble_eq_true rfl⟩) C_QU.1 kqu hK hZ hP hS hA rfl hl.1 rfl (Nat.le_of_ble_eq_true rfl) d_BL_newestOf_26 ⟨Nat.le_of_ble_eq_true rfl, Nat.le_of_ble_eq_true rfl⟩ (fun r h1 H locs hq9 hP hS => ?_)
    obtain ⟨rfl, e9⟩ := hq9
    rw [e9] at hP
    refine W.eq (g2 := F0 m 29 ls [va_rf ((rqs.reverse.find? (fun c => c.2.2.1 == 1 && c.2.2.2.1 == nI n)).map (·.1))]) rfl ?_
    cases hfw : rqs.reverse.find? (fun c => c.2.2.1 == 1 && c.2.2.2.1 == nI n) with
    | some r0 =>
      have kr := hQ.2.2 r0 (List.mem_reverse.mp (List.mem_of_find?_eq_some hfw))
      refine W.eq (g2 := F0 m 29 ls [.ref r0.1]) (rfl) ?_
      refine lv_astore_n (lv' := [(3, .ref r0.1), (2, .null), (0, .ref bl), (1, .int (nI n))]) hx hb d_BL_newestOf_29 rfl hl (by decide) rfl (fun ls hl => ?_)
      refine lv_aload_n hx hb d_BL_newestOf_30 rfl (lv_at hl 0 rfl) ?_
      refine lv_ifnonnull (tgt := 45) hx hb d_BL_newestOf_31 (by decide) ?_
      refine lv_aload_n hx hb d_BL_newestOf_45 rfl (lv_at hl 0 rfl) ?_
      refine fh_get hx hb hG C_RQ iG_RQ hown hK hP kr 4 (by decide) gm567 rfl d_BL_newestOf_46 ?_
      exact fh_iret hx hb hr hlocks (Nat.le_of_ble_eq_true rfl) (Nat.le_of_ble_eq_true rfl) hP hS ⟨by unfold nwv; rw [hfd]; simp only []; rw [hfw], rfl⟩ d_BL_newestOf_49
    | none =>
      refine W.eq (g2 := F0 m 29 ls [.null]) (rfl) ?_
      refine lv_astore_nN (lv' := [(3, .null), (2, .null), (0, .ref bl), (1, .int (nI n))]) hx hb d_BL_newestOf_29 rfl hl (by decide) rfl (fun ls hl => ?_)
      refine lv_aload_nN hx hb d_BL_newestOf_30 rfl (lv_at hl 0 rfl) ?_
      refine lv_ifnonnullN hx hb d_BL_newestOf_31 ?_
      refine lv_aload_n hx hb d_BL_newestOf_34 rfl (lv_at hl 2 rfl) ?_
      refine fh_get hx hb hG C_BL iG_BL hown hK hP hb0 1 (by decide) gm131 rfl d_BL_newestOf_35 ?_
      refine lv_iload_n hx hb d_BL_newestOf_38 rfl (lv_at hl 3 rfl) ?_
      refine fh_callV (C := R_DK) (y := y_DK_valueAfterServing) (bytes := b_DK_valueAfterServing) (maxL := 2) (ret := (some .int)) (index := 203) (As := [.int (nI n)]) (rest := []) ⟨hx, hb, hml, hown, hG⟩ (c_DK_valueAfterServing l E h dk qu med cs sv ul tm hd up wy sd il hd0 (fun r z => (hsv r z).1) mf hm n hn cal carr cps hC (by omega)) (cwV 1 hG (gV gm372 gm373 gm374 gm6 gm375) rfl rfl rfl ⟨rfl, hdy_DK_valueAfterServing⟩ ⟨Nat.le_of_ble_eq_true rfl, Nat.le_of_ble_eq_true rfl⟩) C_DK.1 hd0 hK hZ hP hS hA rfl hl.1 rfl (Nat.le_of_ble_eq_true rfl) d_BL_newestOf_39 ⟨Nat.le_of_ble_eq_true rfl, Nat.le_of_ble_eq_true rfl⟩ (fun r h1 H locs hq9 hP hS => ?_)
      obtain ⟨rfl, e9⟩ := hq9
      rw [e9] at hP
      refine W.eq (g2 := F0 m 42 ls [.int (vas mf cps sv (nI n))]) rfl ?_
      refine lv_goto (tgt := 49) hx hb d_BL_newestOf_42 (by decide) ?_
      exact fh_iret hx hb hr hlocks (Nat.le_of_ble_eq_true rfl) (Nat.le_of_ble_eq_true rfl) hP hS ⟨by unfold nwv; rw [hfd]; simp only []; rw [hfw], rfl⟩ d_BL_newestOf_49

set_option maxHeartbeats 4000000 in
set_option maxRecDepth 100000 in
theorem c_BL_newest (l : Launch) (E : fh_E) (h : fh_H) (bl bcs bal barr dk qu qal qarr med cs cal carr : Nat) (bps : List tC) (rqs : List tQ) (mf : Nat → Int32) (cps : List tC) (sv : Option tQ) (ul tm hd up wy sd il nn hi mi ev ab : Int32) (hS0 : BLs E h bl bcs bal barr dk qu qal qarr med cs cal carr bps rqs mf cps sv ul tm hd up wy sd il nn hi mi ev ab) (hb10 : bps.length ≤ 10) (hq41 : rqs.length ≤ 41) (hc6 : cps.length ≤ 6) (n : Nat) (hn : n < 256) : fh_Met l y_BL_newest w_BL_newest ({ frames := 7, cells := 1, slots := 6, locals := 152 }) E [.ref bl, .int (nI n)] h (fun r h1 => r = some (.int (nwv bps rqs mf cps sv (nI n))) ∧ h1 = h) 1 6 := by
  refine fh_ofW (cc := b_BL_newest) (maxL := 2) (ret := (some .int)) (by decide) rfl (Nat.le_of_ble_eq_true rfl) ?_
  intro p e s m below meth c A ls hx hb hr hml hown hts hlocks hname hnoh hadm hA hK hZ hP hS hl
  have hG : ∀ w ∈ G, w.before _ s = true := fun w hw => hts w (List.mem_cons_of_mem _ hw)
  have hown : s.vm.findClass R_BL = some m.cls := hown
  have hl : lv_has ls 2 [(0, .ref bl), (1, .int (nI n))] := hl
  have hS1 := hS0
  obtain ⟨hb0, hBC, hDK, hap⟩ := hS0
  have hDK0 := hDK
  obtain ⟨hd0, hQ, hm, hC, hsv, hnd, hqc, hqa⟩ := hDK
  have kqu := hQ.1
  have kcs := hC.1
  have kbc := hBC.1
  refine lv_iload_n hx hb d_BL_newest_0 rfl (lv_at hl 1 rfl) ?_
  refine fh_callS (y := y_BL_requireBlock) (bytes := b_BL_requireBlock) (maxL := 1) (ret := none) (index := 23) (As := [.int (nI n)]) (rest := []) ⟨hx, hb, hml, hown, hG⟩ (c_BL_requireBlock l E h n hn) ⟨callB_of 1 hG (gB gm440) rfl rfl rfl (hG _ gm1) (hG _ gm438) hdy_BL_requireBlock ⟨Nat.le_of_ble_eq_true rfl, Nat.le_of_ble_eq_true rfl⟩, hG _ gm439⟩ hK hZ hP hS hA rfl hl.1 rfl (Nat.le_of_ble_eq_true rfl) d_BL_newest_1 ⟨Nat.le_of_ble_eq_true rfl, Nat.le_of_ble_eq_true rfl⟩ (fun r h1 H locs hq9 hP hS => ?_)
  obtain ⟨rfl, e9⟩ := hq9
  rw [e9] at hP
  refine W.eq (g2 := F0 m 4 ls []) rfl ?_
  refine lv_aload_n hx hb d_BL_newest_4 rfl (lv_at hl 0 rfl) ?_
  refine lv_iload_n hx hb d_BL_newest_5 rfl (lv_at hl 1 rfl) ?_
  refine fh_callV (C := R_BL) (y := y_BL_newestOf) (bytes := b_BL_newestOf) (maxL := 4) (ret := (some .int)) (index := 106) (As := [.int (nI n)]) (rest := []) ⟨hx, hb, hml, hown, hG⟩ (c_BL_newestOf l E h bl bcs bal barr dk qu qal qarr med cs cal carr bps rqs mf cps sv ul tm hd up wy sd il nn hi mi ev ab hS1 hb10 hq41 hc6 n hn) (cwV 1 hG (gV gm363 gm365 gs_BL_newestOf gm1 gm366) rfl rfl rfl ⟨rfl, hdy_BL_newestOf⟩ ⟨Nat.le_of_ble_eq_true rfl, Nat.le_of_ble_eq_true rfl⟩) C_BL.1 hb0 hK hZ hP hS hA rfl hl.1 rfl (Nat.le_of_ble_eq_true rfl) d_BL_newest_6 ⟨Nat.le_of_ble_eq_true rfl, Nat.le_of_ble_eq_true rfl⟩ (fun r h1 H locs hq9 hP hS => ?_)
  obtain ⟨rfl, e9⟩ := hq9
  rw [e9] at hP
  refine W.eq (g2 := F0 m 9 ls [.int (nwv bps rqs mf cps sv (nI n))]) rfl ?_
  exact fh_iret hx hb hr hlocks (Nat.le_of_ble_eq_true rfl) (Nat.le_of_ble_eq_true rfl) hP hS ⟨rfl, rfl⟩ d_BL_newest_9

set_option maxHeartbeats 4000000 in
set_option maxRecDepth 100000 in
theorem t_BL_newest_b (l : Launch) (E : fh_E) (h : fh_H) (hfl : l.flags = pinnedFlags ++ [noTraceFlag]) (bl : Nat) (b : Int32) (hn : b.toInt < 0 ∨ (256 : Int) ≤ b.toInt) : th_M l y_BL_newest w_BL_newest ({ frames := 7, cells := 1, slots := 6, locals := 152 }) E [.ref bl, .int b] h xIOB 1 6 := by
  refine th_ofWh (cc := b_BL_newest) (maxL := 2) (ret := (some .int)) (by decide) rfl (Nat.le_of_ble_eq_true rfl) ?_
  intro p e s m below meth c A ls hx hb hr hml hown hts hlocks hname hnoh hadm hA hK hZ hP hS hl
  have hG : ∀ w ∈ G, w.before _ s = true := fun w hw => hts w (List.mem_cons_of_mem _ hw)
  have hown : s.vm.findClass R_BL = some m.cls := hown
  have hl : lv_has ls 2 [(0, .ref bl), (1, .int b)] := hl
  refine lv_iload_n hx hb d_BL_newest_0 rfl (lv_at hl 1 rfl) ?_
  exact th_callS (y := y_BL_requireBlock) (bytes := b_BL_requireBlock) (maxL := 1) (ret := none) (index := 23) (As := [.int b]) (rest := []) ⟨hx, hb, hml, hown, hG⟩ (t_BL_requireBlock l E h hfl b hn) ⟨callB_of 1 hG (gB gm440) rfl rfl rfl (hG _ gm1) (hG _ gm438) hdy_BL_requireBlock ⟨Nat.le_of_ble_eq_true rfl, Nat.le_of_ble_eq_true rfl⟩, hG _ gm439⟩ hK hZ hP hS hA rfl hl.1 rfl (Nat.le_of_ble_eq_true rfl) d_BL_newest_1 ⟨Nat.le_of_ble_eq_true rfl, Nat.le_of_ble_eq_true rfl⟩ hnoh hlocks (Nat.le_of_ble_eq_true rfl) (Nat.le_of_ble_eq_true rfl)

set_option maxHeartbeats 4000000 in
set_option maxRecDepth 100000 in
theorem c_BL_buffer (l : Launch) (E : fh_E) (h : fh_H) (bl bcs bal barr dk qu qal qarr med cs cal carr : Nat) (bps : List tC) (rqs : List tQ) (mf : Nat → Int32) (cps : List tC) (sv : Option tQ) (ul tm hd up wy sd il nn hi mi ev ab : Int32) (hS0 : BLs E h bl bcs bal barr dk qu qal qarr med cs cal carr bps rqs mf cps sv ul tm hd up wy sd il nn hi mi ev ab) (hb10 : bps.length ≤ 10) (hq41 : rqs.length ≤ 41) (hc6 : cps.length ≤ 6) (n : Nat) (hn : n < 256) : fh_Met l y_BL_buffer w_BL_buffer ({ frames := 7, cells := 1, slots := 6, locals := 102 }) E [.ref bl, .int (nI n)] h (fun r h1 => r = some (.int (match bps.find? (fun c => c.2.1 == nI n) with | some c => if c.2.2.2 = 0 then 1 else 2 | none => 0)) ∧ h1 = h) 1 6 := by
  refine fh_ofW (cc := b_BL_buffer) (maxL := 3) (ret := (some .int)) (by decide) rfl (Nat.le_of_ble_eq_true rfl) ?_
  intro p e s m below meth c A ls hx hb hr hml hown hts hlocks hname hnoh hadm hA hK hZ hP hS hl
  have hG : ∀ w ∈ G, w.before _ s = true := fun w hw => hts w (List.mem_cons_of_mem _ hw)
  have hown : s.vm.findClass R_BL = some m.cls := hown
  have hl : lv_has ls 3 [(0, .ref bl), (1, .int (nI n))] := hl
  have hS1 := hS0
  obtain ⟨hb0, hBC, hDK, hap⟩ := hS0
  have hDK0 := hDK
  obtain ⟨hd0, hQ, hm, hC, hsv, hnd, hqc, hqa⟩ := hDK
  have kqu := hQ.1
  have kcs := hC.1
  have kbc := hBC.1
  refine lv_iload_n hx hb d_BL_buffer_0 rfl (lv_at hl 1 rfl) ?_
  refine fh_callS (y := y_BL_requireBlock) (bytes := b_BL_requireBlock) (maxL := 1) (ret := none) (index := 23) (As := [.int (nI n)]) (rest := []) ⟨hx, hb, hml, hown, hG⟩ (c_BL_requireBlock l E h n hn) ⟨callB_of 1 hG (gB gm440) rfl rfl rfl (hG _ gm1) (hG _ gm438) hdy_BL_requireBlock ⟨Nat.le_of_ble_eq_true rfl, Nat.le_of_ble_eq_true rfl⟩, hG _ gm439⟩ hK hZ hP hS hA rfl hl.1 rfl (Nat.le_of_ble_eq_true rfl) d_BL_buffer_1 ⟨Nat.le_of_ble_eq_true rfl, Nat.le_of_ble_eq_true rfl⟩ (fun r h1 H locs hq9 hP hS => ?_)
  obtain ⟨rfl, e9⟩ := hq9
  rw [e9] at hP
  refine W.eq (g2 := F0 m 4 ls []) rfl ?_
  refine lv_aload_n hx hb d_BL_buffer_4 rfl (lv_at hl 0 rfl) ?_
  refine fh_get hx hb hG C_BL iG_BL hown hK hP hb0 0 (by decide) gm130 rfl d_BL_buffer_5 ?_
  refine lv_iload_n hx hb d_BL_buffer_8 rfl (lv_at hl 1 rfl) ?_
  refine fh_callV (C := R_CS) (y := y_CS_copyOf) (bytes := b_CS_copyOf) (maxL := 3) (ret := (some (.object "BlockLayer$Copy"))) (index := 30) (As := [.int (nI n)]) (rest := []) ⟨hx, hb, hml, hown, hG⟩ (c_CS_copyOf l E h bcs bal barr bps hBC (by omega) (nI n)) (cwV 1 hG (gV gm367 gm261 gm262 gm2 gm263) rfl rfl rfl ⟨rfl, hdy_CS_copyOf⟩ ⟨Nat.le_of_ble_eq_true rfl, Nat.le_of_ble_eq_true rfl⟩) C_CS.1 kbc hK hZ hP hS hA rfl hl.1 rfl (Nat.le_of_ble_eq_true rfl) d_BL_buffer_9 ⟨Nat.le_of_ble_eq_true rfl, Nat.le_of_ble_eq_true rfl⟩ (fun r h1 H locs hq9 hP hS => ?_)
  obtain ⟨rfl, e9⟩ := hq9
  rw [e9] at hP
  refine W.eq (g2 := F0 m 12 ls [va_rf ((bps.find? (fun c => c.2.1 == nI n)).map (·.1))]) rfl ?_
  cases hfd : bps.find? (fun c => c.2.1 == nI n) with
  | none =>
    refine W.eq (g2 := F0 m 12 ls [.null]) (rfl) ?_
    refine lv_astore_nN (lv' := [(2, .null), (0, .ref bl), (1, .int (nI n))]) hx hb d_BL_buffer_12 rfl hl (by decide) rfl (fun ls hl => ?_)
    refine lv_aload_nN hx hb d_BL_buffer_13 rfl (lv_at hl 0 rfl) ?_
    refine lv_ifnonnullN hx hb d_BL_buffer_14 ?_
    refine lv_iconst (v := 0) hx hb d_BL_buffer_17 (by decide) ?_
    exact fh_iret hx hb hr hlocks (Nat.le_of_ble_eq_true rfl) (Nat.le_of_ble_eq_true rfl) hP hS ⟨rfl, rfl⟩ d_BL_buffer_18
  | some c0 =>
    have kc := hBC.2.2 c0 (List.mem_of_find?_eq_some hfd)
    refine W.eq (g2 := F0 m 12 ls [.ref c0.1]) (rfl) ?_
    refine lv_astore_n (lv' := [(2, .ref c0.1), (0, .ref bl), (1, .int (nI n))]) hx hb d_BL_buffer_12 rfl hl (by decide) rfl (fun ls hl => ?_)
    refine lv_aload_n hx hb d_BL_buffer_13 rfl (lv_at hl 0 rfl) ?_
    refine lv_ifnonnull (tgt := 19) hx hb d_BL_buffer_14 (by decide) ?_
    refine lv_aload_n hx hb d_BL_buffer_19 rfl (lv_at hl 0 rfl) ?_
    refine fh_get hx hb hG C_CP iG_CP hown hK hP kc 2 (by decide) gm279 rfl d_BL_buffer_20 ?_
    refine lv_if_eq (tgt := 30) hx hb d_BL_buffer_23 (by decide) (fun c_1 => ?_) (fun c_1 => ?_)
    · skip
      refine lv_iconst (v := 1) hx hb d_BL_buffer_30 (by decide) ?_
      exact fh_iret hx hb hr hlocks (Nat.le_of_ble_eq_true rfl) (Nat.le_of_ble_eq_true rfl) hP hS ⟨by simp only []; rw [if_pos c_1], rfl⟩ d_BL_buffer_31
    · skip
      refine lv_iconst (v := 2) hx hb d_BL_buffer_26 (by decide) ?_
      refine lv_goto (tgt := 31) hx hb d_BL_buffer_27 (by decide) ?_
      exact fh_iret hx hb hr hlocks (Nat.le_of_ble_eq_true rfl) (Nat.le_of_ble_eq_true rfl) hP hS ⟨by simp only []; rw [if_neg c_1], rfl⟩ d_BL_buffer_31

set_option maxHeartbeats 4000000 in
set_option maxRecDepth 100000 in
theorem t_BL_buffer_b (l : Launch) (E : fh_E) (h : fh_H) (hfl : l.flags = pinnedFlags ++ [noTraceFlag]) (bl : Nat) (b : Int32) (hn : b.toInt < 0 ∨ (256 : Int) ≤ b.toInt) : th_M l y_BL_buffer w_BL_buffer ({ frames := 7, cells := 1, slots := 6, locals := 102 }) E [.ref bl, .int b] h xIOB 1 6 := by
  refine th_ofWh (cc := b_BL_buffer) (maxL := 3) (ret := (some .int)) (by decide) rfl (Nat.le_of_ble_eq_true rfl) ?_
  intro p e s m below meth c A ls hx hb hr hml hown hts hlocks hname hnoh hadm hA hK hZ hP hS hl
  have hG : ∀ w ∈ G, w.before _ s = true := fun w hw => hts w (List.mem_cons_of_mem _ hw)
  have hown : s.vm.findClass R_BL = some m.cls := hown
  have hl : lv_has ls 3 [(0, .ref bl), (1, .int b)] := hl
  refine lv_iload_n hx hb d_BL_buffer_0 rfl (lv_at hl 1 rfl) ?_
  exact th_callS (y := y_BL_requireBlock) (bytes := b_BL_requireBlock) (maxL := 1) (ret := none) (index := 23) (As := [.int b]) (rest := []) ⟨hx, hb, hml, hown, hG⟩ (t_BL_requireBlock l E h hfl b hn) ⟨callB_of 1 hG (gB gm440) rfl rfl rfl (hG _ gm1) (hG _ gm438) hdy_BL_requireBlock ⟨Nat.le_of_ble_eq_true rfl, Nat.le_of_ble_eq_true rfl⟩, hG _ gm439⟩ hK hZ hP hS hA rfl hl.1 rfl (Nat.le_of_ble_eq_true rfl) d_BL_buffer_1 ⟨Nat.le_of_ble_eq_true rfl, Nat.le_of_ble_eq_true rfl⟩ hnoh hlocks (Nat.le_of_ble_eq_true rfl) (Nat.le_of_ble_eq_true rfl)

set_option maxHeartbeats 4000000 in
set_option maxRecDepth 100000 in
theorem c_BL_used (l : Launch) (E : fh_E) (h : fh_H) (bl bcs bal barr dk qu qal qarr med cs cal carr : Nat) (bps : List tC) (rqs : List tQ) (mf : Nat → Int32) (cps : List tC) (sv : Option tQ) (ul tm hd up wy sd il nn hi mi ev ab : Int32) (hS0 : BLs E h bl bcs bal barr dk qu qal qarr med cs cal carr bps rqs mf cps sv ul tm hd up wy sd il nn hi mi ev ab) (hb10 : bps.length ≤ 10) (hq41 : rqs.length ≤ 41) (hc6 : cps.length ≤ 6) (i : Int32) : fh_Met l y_BL_used w_BL_used ({ frames := 4, cells := 0, slots := 0, locals := 85 }) E [.ref bl, .int i] h (fun r h1 => r = some (.int (match atI bps i with | some c => c.2.1 | none => -1)) ∧ h1 = h) 0 0 := by
  refine fh_ofW (cc := b_BL_used) (maxL := 3) (ret := (some .int)) (by decide) rfl (Nat.le_of_ble_eq_true rfl) ?_
  intro p e s m below meth c A ls hx hb hr hml hown hts hlocks hname hnoh hadm hA hK hZ hP hS hl
  have hG : ∀ w ∈ G, w.before _ s = true := fun w hw => hts w (List.mem_cons_of_mem _ hw)
  have hown : s.vm.findClass R_BL = some m.cls := hown
  have hl : lv_has ls 3 [(0, .ref bl), (1, .int i)] := hl
  have hS1 := hS0
  obtain ⟨hb0, hBC, hDK, hap⟩ := hS0
  have hDK0 := hDK
  obtain ⟨hd0, hQ, hm, hC, hsv, hnd, hqc, hqa⟩ := hDK
  have kqu := hQ.1
  have kcs := hC.1
  have kbc := hBC.1
  refine lv_aload_n hx hb d_BL_used_0 rfl (lv_at hl 0 rfl) ?_
  refine fh_get hx hb hG C_BL iG_BL hown hK hP hb0 0 (by decide) gm130 rfl d_BL_used_1 ?_
  refine lv_iload_n hx hb d_BL_used_4 rfl (lv_at hl 1 rfl) ?_
  refine fh_callV (C := R_CS) (y := y_CS_at) (bytes := b_CS_at) (maxL := 2) (ret := (some (.object "BlockLayer$Copy"))) (index := 126) (As := [.int i]) (rest := []) ⟨hx, hb, hml, hown, hG⟩ (c_CS_at l E h bcs bal barr bps hBC (by omega) i) (cwV 1 hG (gV gm402 gm403 gm404 gm2 gm405) rfl rfl rfl ⟨rfl, hdy_CS_at⟩ ⟨Nat.le_of_ble_eq_true rfl, Nat.le_of_ble_eq_true rfl⟩) C_CS.1 kbc hK hZ hP hS hA rfl hl.1 rfl (Nat.le_of_ble_eq_true rfl) d_BL_used_5 ⟨Nat.le_of_ble_eq_true rfl, Nat.le_of_ble_eq_true rfl⟩ (fun r h1 H locs hq9 hP hS => ?_)
  obtain ⟨rfl, e9⟩ := hq9
  rw [e9] at hP
  refine W.eq (g2 := F0 m 8 ls [va_rf ((atI bps i).map (·.1))]) rfl ?_
  cases hfd : atI bps i with
  | none =>
    refine W.eq (g2 := F0 m 8 ls [.null]) (rfl) ?_
    refine lv_astore_nN (lv' := [(2, .null), (0, .ref bl), (1, .int i)]) hx hb d_BL_used_8 rfl hl (by decide) rfl (fun ls hl => ?_)
    refine lv_aload_nN hx hb d_BL_used_9 rfl (lv_at hl 0 rfl) ?_
    refine lv_ifnonnullN hx hb d_BL_used_10 ?_
    refine lv_iconst (v := (-1)) hx hb d_BL_used_13 (by decide) ?_
    refine lv_goto (tgt := 21) hx hb d_BL_used_14 (by decide) ?_
    exact fh_iret hx hb hr hlocks (Nat.le_of_ble_eq_true rfl) (Nat.le_of_ble_eq_true rfl) hP hS ⟨rfl, rfl⟩ d_BL_used_21
  | some c0 =>
    have kc := hBC.2.2 c0 (atI_mem hfd)
    refine W.eq (g2 := F0 m 8 ls [.ref c0.1]) (rfl) ?_
    refine lv_astore_n (lv' := [(2, .ref c0.1), (0, .ref bl), (1, .int i)]) hx hb d_BL_used_8 rfl hl (by decide) rfl (fun ls hl => ?_)
    refine lv_aload_n hx hb d_BL_used_9 rfl (lv_at hl 0 rfl) ?_
    refine lv_ifnonnull (tgt := 17) hx hb d_BL_used_10 (by decide) ?_
    refine lv_aload_n hx hb d_BL_used_17 rfl (lv_at hl 0 rfl) ?_
    refine fh_get hx hb hG C_CP iG_CP hown hK hP kc 0 (by decide) gm274 rfl d_BL_used_18 ?_
    exact fh_iret hx hb hr hlocks (Nat.le_of_ble_eq_true rfl) (Nat.le_of_ble_eq_true rfl) hP hS ⟨rfl, rfl⟩ d_BL_used_21

set_option maxHeartbeats 4000000 in
set_option maxRecDepth 100000 in
theorem c_BL_queued (l : Launch) (E : fh_E) (h : fh_H) (bl bcs bal barr dk qu qal qarr med cs cal carr : Nat) (bps : List tC) (rqs : List tQ) (mf : Nat → Int32) (cps : List tC) (sv : Option tQ) (ul tm hd up wy sd il nn hi mi ev ab : Int32) (hS0 : BLs E h bl bcs bal barr dk qu qal qarr med cs cal carr bps rqs mf cps sv ul tm hd up wy sd il nn hi mi ev ab) (hb10 : bps.length ≤ 10) (hq41 : rqs.length ≤ 41) (hc6 : cps.length ≤ 6) (i : Int32) : fh_Met l y_BL_queued w_BL_queued ({ frames := 4, cells := 0, slots := 0, locals := 85 }) E [.ref bl, .int i] h (fun r h1 => r = some (.int (match atI rqs i with | some c => c.2.1 | none => -1)) ∧ h1 = h) 0 0 := by
  refine fh_ofW (cc := b_BL_queued) (maxL := 3) (ret := (some .int)) (by decide) rfl (Nat.le_of_ble_eq_true rfl) ?_
  intro p e s m below meth c A ls hx hb hr hml hown hts hlocks hname hnoh hadm hA hK hZ hP hS hl
  have hG : ∀ w ∈ G, w.before _ s = true := fun w hw => hts w (List.mem_cons_of_mem _ hw)
  have hown : s.vm.findClass R_BL = some m.cls := hown
  have hl : lv_has ls 3 [(0, .ref bl), (1, .int i)] := hl
  have hS1 := hS0
  obtain ⟨hb0, hBC, hDK, hap⟩ := hS0
  have hDK0 := hDK
  obtain ⟨hd0, hQ, hm, hC, hsv, hnd, hqc, hqa⟩ := hDK
  have kqu := hQ.1
  have kcs := hC.1
  have kbc := hBC.1
  refine lv_aload_n hx hb d_BL_queued_0 rfl (lv_at hl 0 rfl) ?_
  refine fh_get hx hb hG C_BL iG_BL hown hK hP hb0 1 (by decide) gm131 rfl d_BL_queued_1 ?_
  refine fh_get hx hb hG C_DK iG_DK hown hK hP hd0 0 (by decide) gm88 rfl d_BL_queued_4 ?_
  refine lv_iload_n hx hb d_BL_queued_7 rfl (lv_at hl 1 rfl) ?_
  refine fh_callV (C := R_QU) (y := y_QU_at) (bytes := b_QU_at) (maxL := 2) (ret := (some (.object "BlockLayer$Request"))) (index := 132) (As := [.int i]) (rest := []) ⟨hx, hb, hml, hown, hG⟩ (c_QU_at l E h qu qal qarr rqs hQ (by omega) i) (cwV 1 hG (gV gm410 gm181 gm182 gm7 gm183) rfl rfl rfl ⟨rfl, hdy_QU_at⟩ ⟨Nat.le_of_ble_eq_true rfl, Nat.le_of_ble_eq_true rfl⟩) C_QU.1 kqu hK hZ hP hS hA rfl hl.1 rfl (Nat.le_of_ble_eq_true rfl) d_BL_queued_8 ⟨Nat.le_of_ble_eq_true rfl, Nat.le_of_ble_eq_true rfl⟩ (fun r h1 H locs hq9 hP hS => ?_)
  obtain ⟨rfl, e9⟩ := hq9
  rw [e9] at hP
  refine W.eq (g2 := F0 m 11 ls [va_rf ((atI rqs i).map (·.1))]) rfl ?_
  cases hfd : atI rqs i with
  | none =>
    refine W.eq (g2 := F0 m 11 ls [.null]) (rfl) ?_
    refine lv_astore_nN (lv' := [(2, .null), (0, .ref bl), (1, .int i)]) hx hb d_BL_queued_11 rfl hl (by decide) rfl (fun ls hl => ?_)
    refine lv_aload_nN hx hb d_BL_queued_12 rfl (lv_at hl 0 rfl) ?_
    refine lv_ifnonnullN hx hb d_BL_queued_13 ?_
    refine lv_iconst (v := (-1)) hx hb d_BL_queued_16 (by decide) ?_
    refine lv_goto (tgt := 24) hx hb d_BL_queued_17 (by decide) ?_
    exact fh_iret hx hb hr hlocks (Nat.le_of_ble_eq_true rfl) (Nat.le_of_ble_eq_true rfl) hP hS ⟨rfl, rfl⟩ d_BL_queued_24
  | some r0 =>
    have kr := hQ.2.2 r0 (atI_mem hfd)
    refine W.eq (g2 := F0 m 11 ls [.ref r0.1]) (rfl) ?_
    refine lv_astore_n (lv' := [(2, .ref r0.1), (0, .ref bl), (1, .int i)]) hx hb d_BL_queued_11 rfl hl (by decide) rfl (fun ls hl => ?_)
    refine lv_aload_n hx hb d_BL_queued_12 rfl (lv_at hl 0 rfl) ?_
    refine lv_ifnonnull (tgt := 20) hx hb d_BL_queued_13 (by decide) ?_
    refine lv_aload_n hx hb d_BL_queued_20 rfl (lv_at hl 0 rfl) ?_
    refine fh_get hx hb hG C_RQ iG_RQ hown hK hP kr 0 (by decide) gm554 rfl d_BL_queued_21 ?_
    exact fh_iret hx hb hr hlocks (Nat.le_of_ble_eq_true rfl) (Nat.le_of_ble_eq_true rfl) hP hS ⟨rfl, rfl⟩ d_BL_queued_24
