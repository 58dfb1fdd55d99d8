/-! THE LAYER, in the model: what it tells; crash. -/
set_option maxHeartbeats 4000000 in
set_option maxRecDepth 100000 in
theorem t_BL_sync_q (l : Launch) (E : fh_E) (h : fh_H) (bl med : Nat) (S : mS) (t : Nat) (hfl : l.flags = pinnedFlags ++ [noTraceFlag]) (hS0 : ALy E h bl med S) (hI : Inv S t) (hroom : 40 < S.q.length + S.bs.length + 1) : th_M l y_BL_sync w_BL_sync ({ frames := 10, cells := 23, slots := 875, locals := 258 }) E [.ref bl] h xUOE 23 875 := by
  refine th_ofWh (cc := b_BL_sync) (maxL := 4) (ret := (some .int)) (by decide) rfl (Nat.le_of_ble_eq_true rfl) ?_
  intro p e s m below meth c A ls hx hb hr hml hown hts hlocks hname hnoh hadm hA hK hZ hP hS hl
  have hG : ∀ w ∈ G, w.before _ s = true := fun w hw => hts w (List.mem_cons_of_mem _ hw)
  have hown : s.vm.findClass R_BL = some m.cls := hown
  have hl : lv_has ls 4 [(0, .ref bl)] := hl
  obtain ⟨dk, rqs, sv, hB⟩ := hS0
  obtain ⟨bcs, bal, barr, qu, qal, qarr, cs, cal, carr, bps, cps, hS1, eb, eq, ec, es⟩ := id hB
  obtain ⟨hb0, hBC, hDK, hap⟩ := id hS1
  obtain ⟨hd0, hQ, hm, hC, hsv, hnd, hqc, hqa⟩ := id hDK
  have kqu := hQ.1
  have kcs := hC.1
  have kbc := hBC.1
  have hb10 : bps.length ≤ 10 := by
    have h9 : (bps.map (·.2)).length ≤ 10 := by rw [eb]; exact hI.bs10
    rw [List.length_map] at h9
    exact h9
  have hq40 : rqs.length ≤ 40 := by
    have h9 : (rqs.map (·.2)).length ≤ 40 := by rw [eq]; exact hI.q40
    rw [List.length_map] at h9
    exact h9
  have hc6 : cps.length ≤ 6 := by
    have h9 : (cps.map (·.2)).length ≤ 6 := by rw [ec]; exact hI.ca6
    rw [List.length_map] at h9
    exact h9
  refine lv_aload_n hx hb d_BL_sync_0 rfl (lv_at hl 0 rfl) ?_
  refine lv_aload_n hx hb d_BL_sync_1 rfl (lv_at hl 0 rfl) ?_
  refine fh_get hx hb hG C_BL iG_BL hown hK hP hb0 0 (by decide) gm130 rfl d_BL_sync_2 ?_
  refine fh_callV (C := R_CS) (y := y_CS_size) (bytes := b_CS_size) (maxL := 1) (ret := (some .int)) (index := 73) (As := []) (rest := [.ref bl]) ⟨hx, hb, hml, hown, hG⟩ (c_CS_size l E h bcs bal barr bps hBC (by omega)) (cwV 0 hG (gV gm428 gm241 gm242 gm2 gm243) rfl rfl rfl ⟨rfl, hdy_CS_size⟩ ⟨Nat.le_of_ble_eq_true rfl, Nat.le_of_ble_eq_true rfl⟩) C_CS.1 kbc hK hZ hP hS hA rfl hl.1 rfl (Nat.le_of_ble_eq_true rfl) d_BL_sync_5 ⟨Nat.le_of_ble_eq_true rfl, Nat.le_of_ble_eq_true rfl⟩ (fun r h1 H locs hq9 hP hS => ?_)
  obtain ⟨rfl, e9⟩ := hq9
  rw [e9] at hP
  refine W.eq (g2 := F0 m 8 ls [.int (nI bps.length), .ref bl]) rfl ?_
  refine lv_iconst (v := 1) hx hb d_BL_sync_8 (by decide) ?_
  refine lv_iadd hx hb d_BL_sync_9 ?_
  refine W.eq (g2 := F0 m 10 ls [.int (nI (bps.length + 1)), .ref bl]) (by rw [nI_1]) ?_
  exact th_callV (C := R_BL) (y := y_BL_requireQueueRoom) (bytes := b_BL_requireQueueRoom) (maxL := 2) (ret := none) (index := 27) (As := [.int (nI (bps.length + 1))]) (rest := []) ⟨hx, hb, hml, hown, hG⟩ (t_BL_requireQueueRoom l E h hfl bl bcs bal barr dk qu qal qarr med cs cal carr bps rqs S.mf cps sv S.ul S.tm S.hd S.up S.wy S.sd S.il S.nn S.hi S.mi S.ev S.ab hS1 (by omega) (bps.length + 1) (by rw [← eq, ← eb, List.length_map, List.length_map] at hroom; omega) (by omega)) (cwV 1 hG (gV gm509 gm511 gs_BL_requireQueueRoom gm1 gm512) rfl rfl rfl ⟨rfl, hdy_BL_requireQueueRoom⟩ ⟨Nat.le_of_ble_eq_true rfl, Nat.le_of_ble_eq_true rfl⟩) C_BL.1 hb0 hK hZ hP hS hA rfl hl.1 rfl (Nat.le_of_ble_eq_true rfl) d_BL_sync_10 ⟨Nat.le_of_ble_eq_true rfl, Nat.le_of_ble_eq_true rfl⟩ hnoh hlocks (Nat.le_of_ble_eq_true rfl) (Nat.le_of_ble_eq_true rfl)

def vasM (S : mS) (b : Int32) : Int32 := match S.sv with
  | some r => if r.2.1 = 1 ∧ r.2.2.1 = b then r.2.2.2.2 else vinM S.mf S.ca b
  | none => vinM S.mf S.ca b
def newM (S : mS) (b : Int32) : Int32 := match bfM S b with
  | some c => c.2.1
  | none => match S.q.reverse.find? (fun c => c.2.1 == 1 && c.2.2.1 == b) with
    | some r => r.2.2.2.2
    | none => vasM S b
theorem vas_er {S : mS} {cps : List tC} {sv : Option tQ} {b : Int32} (ec : cps.map (·.2) = S.ca) (es : sv.map (·.2) = S.sv) : vas S.mf cps sv b = vasM S b := by
  unfold vas vasM
  rw [← es]
  cases sv with
  | none => show vin S.mf cps b = vinM S.mf S.ca b; rw [vin_er, ec]
  | some r => show (if r.2.2.1 = 1 ∧ r.2.2.2.1 = b then r.2.2.2.2.2 else vin S.mf cps b) = _; rw [vin_er, ec]; rfl
theorem bf_er {S : mS} {bps : List tC} (eb : bps.map (·.2) = S.bs) (b : Int32) : bfM S b = (bps.find? (fun c => c.2.1 == b)).map (·.2) := by
  unfold bfM; rw [← eb, List.find?_map]; rfl
theorem nwv_er {S : mS} {bps cps : List tC} {rqs : List tQ} {sv : Option tQ} {b : Int32} (eb : bps.map (·.2) = S.bs) (eq : rqs.map (·.2) = S.q) (ec : cps.map (·.2) = S.ca) (es : sv.map (·.2) = S.sv) : nwv bps rqs S.mf cps sv b = newM S b := by
  unfold nwv newM
  rw [bf_er eb]
  cases bps.find? (fun c => c.2.1 == b) with
  | some c => rfl
  | none =>
    show (match rqs.reverse.find? (fun c => c.2.2.1 == 1 && c.2.2.2.1 == b) with | some r => r.2.2.2.2.2 | none => vas S.mf cps sv b) = match S.q.reverse.find? (fun c => c.2.1 == 1 && c.2.2.1 == b) with | some r => r.2.2.2.2 | none => vasM S b
    rw [← eq, ← List.map_reverse, List.find?_map, vas_er ec es]
    show _ = match Option.map (·.2) (rqs.reverse.find? (fun c => c.2.2.1 == 1 && c.2.2.2.1 == b)) with | some r => r.2.2.2.2 | none => vasM S b
    cases rqs.reverse.find? (fun c => c.2.2.1 == 1 && c.2.2.2.1 == b) with
    | some r => rfl
    | none => rfl
theorem atI_map {α β : Type} (f : α → β) (xs : List α) (i : Int32) : atI (xs.map f) i = (atI xs i).map f := by
  unfold atI
  split
  · rfl
  · rw [List.getElem?_map]
def lvM (S : mS) (n : Int32) : Option mQ := match S.sv with
  | some r => if r.1 = n then some r else S.q.find? (fun c => c.1 == n)
  | none => S.q.find? (fun c => c.1 == n)
theorem lv_er {S : mS} {rqs : List tQ} {sv : Option tQ} {n : Int32} (eq : rqs.map (·.2) = S.q) (es : sv.map (·.2) = S.sv) : lvM S n = (lvR rqs sv n).map (·.2) := by
  have e1 : S.q.find? (fun c => c.1 == n) = (rqs.find? (fun c => c.2.1 == n)).map (·.2) := by rw [← eq, List.find?_map]; rfl
  unfold lvM lvR
  rw [← es, e1]
  cases sv with
  | none => rfl
  | some r =>
    show (if r.2.1 = n then some r.2 else _) = (if r.2.1 = n then some r else _).map (·.2)
    split <;> rfl
def rqM (r : mQ) (w : Int32) : Int32 := if w = 0 then r.2.1 else if w = 1 then r.2.2.1 else if w = 2 then r.2.2.2.2 else if w = 3 then r.2.2.2.1 else -1
def tdM (S : mS) (w : Int32) : Int32 :=
  if w = 0 then S.tm else if w = 1 then S.hd else if w = 2 then (match S.sv with | some r => r.1 | none => -1) else if w = 3 then nI S.q.length else if w = 4 then nI S.ca.length else if w = 5 then nI S.bs.length else if w = 6 then S.hi else if w = 7 then S.mi else if w = 8 then S.ev else if w = 9 then S.ab else if w = 10 then S.sd else if w = 11 then S.il else -1
theorem m_newest (l : Launch) (E : fh_E) (h : fh_H) (bl med : Nat) (S : mS) (t : Nat) (hS0 : ALy E h bl med S) (hI : Inv S t) (n : Nat) (hn : n < 256) : fh_Met l y_BL_newest w_BL_newest ({ frames := 7, cells := 1, slots := 6, locals := 152 }) E [.ref bl, .int (nI n)] h (fun r h1 => r = some (.int (newM S (nI n))) ∧ ALy E h1 bl med (S) ∧ KB h h1 med) 1 6 := by
  obtain ⟨dk, rqs, sv, hS⟩ := hS0
  have hB := hS
  obtain ⟨bcs, bal, barr, qu, qal, qarr, cs, cal, carr, bps, cps, hS, eb, eq, ec, es⟩ := hS
  have hI0 := hI
  obtain ⟨i1, i2, i3, i4, i5, i6, i7, i8, i9, i10, i11, i12, n0, hn0, i13⟩ := hI
  have hD := hS.2.2.1
  have hq41 : rqs.length ≤ 41 := by have : (rqs.map (·.2)).length ≤ 40 := by rw [eq]; exact i2
                                    rw [List.length_map] at this; omega
  have hc6 : cps.length ≤ 6 := by have : (cps.map (·.2)).length ≤ 6 := by rw [ec]; exact i3
                                  rw [List.length_map] at this; exact this
  have hB : ∀ c ∈ cps, bOK c.2.1 := fun c hc => i6 c.2 (by rw [← ec]; exact List.mem_map.mpr ⟨c, hc, rfl⟩)
  have lc : cps.length = S.ca.length := by rw [← ec, List.length_map]
  have hb10 : bps.length ≤ 10 := by
    have h9 : (bps.map (·.2)).length ≤ 10 := by rw [eb]; exact i1
    rw [List.length_map] at h9
    exact h9
  refine (c_BL_newest l E h bl bcs bal barr dk qu qal qarr med cs cal carr bps rqs S.mf cps sv S.ul S.tm S.hd S.up S.wy S.sd S.il S.nn S.hi S.mi S.ev S.ab hS hb10 hq41 hc6 n hn).mono2 ?_
  rintro r h1 e0 e1 ⟨rfl, rfl⟩
  exact ⟨by rw [nwv_er eb eq ec es], ⟨dk, rqs, sv, hB⟩, KB.rfl⟩
theorem m_media (l : Launch) (E : fh_E) (h : fh_H) (bl med : Nat) (S : mS) (t : Nat) (hS0 : ALy E h bl med S) (hI : Inv S t) (n : Nat) (hn : n < 256) : fh_Met l y_BL_media w_BL_media ({ frames := 7, cells := 1, slots := 6, locals := 102 }) E [.ref bl, .int (nI n)] h (fun r h1 => r = some (.int (S.mf n)) ∧ ALy E h1 bl med (S) ∧ KB h h1 med) 1 6 := by
  obtain ⟨dk, rqs, sv, hS⟩ := hS0
  have hB := hS
  obtain ⟨bcs, bal, barr, qu, qal, qarr, cs, cal, carr, bps, cps, hS, eb, eq, ec, es⟩ := hS
  have hI0 := hI
  obtain ⟨i1, i2, i3, i4, i5, i6, i7, i8, i9, i10, i11, i12, n0, hn0, i13⟩ := hI
  have hD := hS.2.2.1
  have hq41 : rqs.length ≤ 41 := by have : (rqs.map (·.2)).length ≤ 40 := by rw [eq]; exact i2
                                    rw [List.length_map] at this; omega
  have hc6 : cps.length ≤ 6 := by have : (cps.map (·.2)).length ≤ 6 := by rw [ec]; exact i3
                                  rw [List.length_map] at this; exact this
  have hB : ∀ c ∈ cps, bOK c.2.1 := fun c hc => i6 c.2 (by rw [← ec]; exact List.mem_map.mpr ⟨c, hc, rfl⟩)
  have lc : cps.length = S.ca.length := by rw [← ec, List.length_map]
  have hb10 : bps.length ≤ 10 := by
    have h9 : (bps.map (·.2)).length ≤ 10 := by rw [eb]; exact i1
    rw [List.length_map] at h9
    exact h9
  refine (c_BL_media l E h bl bcs bal barr dk qu qal qarr med cs cal carr bps rqs S.mf cps sv S.ul S.tm S.hd S.up S.wy S.sd S.il S.nn S.hi S.mi S.ev S.ab hS n hn).mono2 ?_
  rintro r h1 e0 e1 ⟨rfl, rfl⟩
  exact ⟨rfl, ⟨dk, rqs, sv, hB⟩, KB.rfl⟩
theorem m_buffer (l : Launch) (E : fh_E) (h : fh_H) (bl med : Nat) (S : mS) (t : Nat) (hS0 : ALy E h bl med S) (hI : Inv S t) (n : Nat) (hn : n < 256) : fh_Met l y_BL_buffer w_BL_buffer ({ frames := 7, cells := 1, slots := 6, locals := 102 }) E [.ref bl, .int (nI n)] h (fun r h1 => r = some (.int (match bfM S (nI n) with | some c => if c.2.2 = 0 then 1 else 2 | none => 0)) ∧ ALy E h1 bl med (S) ∧ KB h h1 med) 1 6 := by
  obtain ⟨dk, rqs, sv, hS⟩ := hS0
  have hB := hS
  obtain ⟨bcs, bal, barr, qu, qal, qarr, cs, cal, carr, bps, cps, hS, eb, eq, ec, es⟩ := hS
  have hI0 := hI
  obtain ⟨i1, i2, i3, i4, i5, i6, i7, i8, i9, i10, i11, i12, n0, hn0, i13⟩ := hI
  have hD := hS.2.2.1
  have hq41 : rqs.length ≤ 41 := by have : (rqs.map (·.2)).length ≤ 40 := by rw [eq]; exact i2
                                    rw [List.length_map] at this; omega
  have hc6 : cps.length ≤ 6 := by have : (cps.map (·.2)).length ≤ 6 := by rw [ec]; exact i3
                                  rw [List.length_map] at this; exact this
  have hB : ∀ c ∈ cps, bOK c.2.1 := fun c hc => i6 c.2 (by rw [← ec]; exact List.mem_map.mpr ⟨c, hc, rfl⟩)
  have lc : cps.length = S.ca.length := by rw [← ec, List.length_map]
  have hb10 : bps.length ≤ 10 := by
    have h9 : (bps.map (·.2)).length ≤ 10 := by rw [eb]; exact i1
    rw [List.length_map] at h9
    exact h9
  refine (c_BL_buffer l E h bl bcs bal barr dk qu qal qarr med cs cal carr bps rqs S.mf cps sv S.ul S.tm S.hd S.up S.wy S.sd S.il S.nn S.hi S.mi S.ev S.ab hS hb10 hq41 hc6 n hn).mono2 ?_
  rintro r h1 e0 e1 ⟨rfl, rfl⟩
  exact ⟨by rw [bf_er eb]; cases bps.find? (fun c => c.2.1 == nI n) <;> rfl, ⟨dk, rqs, sv, hB⟩, KB.rfl⟩
theorem m_used (l : Launch) (E : fh_E) (h : fh_H) (bl med : Nat) (S : mS) (t : Nat) (hS0 : ALy E h bl med S) (hI : Inv S t) (i : Int32) : fh_Met l y_BL_used w_BL_used ({ frames := 4, cells := 0, slots := 0, locals := 85 }) E [.ref bl, .int i] h (fun r h1 => r = some (.int (match atI S.bs i with | some c => c.1 | none => -1)) ∧ ALy E h1 bl med (S) ∧ KB h h1 med) 0 0 := by
  obtain ⟨dk, rqs, sv, hS⟩ := hS0
  have hB := hS
  obtain ⟨bcs, bal, barr, qu, qal, qarr, cs, cal, carr, bps, cps, hS, eb, eq, ec, es⟩ := hS
  have hI0 := hI
  obtain ⟨i1, i2, i3, i4, i5, i6, i7, i8, i9, i10, i11, i12, n0, hn0, i13⟩ := hI
  have hD := hS.2.2.1
  have hq41 : rqs.length ≤ 41 := by have : (rqs.map (·.2)).length ≤ 40 := by rw [eq]; exact i2
                                    rw [List.length_map] at this; omega
  have hc6 : cps.length ≤ 6 := by have : (cps.map (·.2)).length ≤ 6 := by rw [ec]; exact i3
                                  rw [List.length_map] at this; exact this
  have hB : ∀ c ∈ cps, bOK c.2.1 := fun c hc => i6 c.2 (by rw [← ec]; exact List.mem_map.mpr ⟨c, hc, rfl⟩)
  have lc : cps.length = S.ca.length := by rw [← ec, List.length_map]
  have hb10 : bps.length ≤ 10 := by
    have h9 : (bps.map (·.2)).length ≤ 10 := by rw [eb]; exact i1
    rw [List.length_map] at h9
    exact h9
  refine (c_BL_used l E h bl bcs bal barr dk qu qal qarr med cs cal carr bps rqs S.mf cps sv S.ul S.tm S.hd S.up S.wy S.sd S.il S.nn S.hi S.mi S.ev S.ab hS hb10 hq41 hc6 i).mono2 ?_
  rintro r h1 e0 e1 ⟨rfl, rfl⟩
  exact ⟨by rw [← eb, atI_map]; cases atI bps i <;> rfl, ⟨dk, rqs, sv, hB⟩, KB.rfl⟩
theorem m_queued (l : Launch) (E : fh_E) (h : fh_H) (bl med : Nat) (S : mS) (t : Nat) (hS0 : ALy E h bl med S) (hI : Inv S t) (i : Int32) : fh_Met l y_BL_queued w_BL_queued ({ frames := 4, cells := 0, slots := 0, locals := 85 }) E [.ref bl, .int i] h (fun r h1 => r = some (.int (match atI S.q i with | some c => c.1 | none => -1)) ∧ ALy E h1 bl med (S) ∧ KB h h1 med) 0 0 := by
  obtain ⟨dk, rqs, sv, hS⟩ := hS0
  have hB := hS
  obtain ⟨bcs, bal, barr, qu, qal, qarr, cs, cal, carr, bps, cps, hS, eb, eq, ec, es⟩ := hS
  have hI0 := hI
  obtain ⟨i1, i2, i3, i4, i5, i6, i7, i8, i9, i10, i11, i12, n0, hn0, i13⟩ := hI
  have hD := hS.2.2.1
  have hq41 : rqs.length ≤ 41 := by have : (rqs.map (·.2)).length ≤ 40 := by rw [eq]; exact i2
                                    rw [List.length_map] at this; omega
  have hc6 : cps.length ≤ 6 := by have : (cps.map (·.2)).length ≤ 6 := by rw [ec]; exact i3
                                  rw [List.length_map] at this; exact this
  have hB : ∀ c ∈ cps, bOK c.2.1 := fun c hc => i6 c.2 (by rw [← ec]; exact List.mem_map.mpr ⟨c, hc, rfl⟩)
  have lc : cps.length = S.ca.length := by rw [← ec, List.length_map]
  have hb10 : bps.length ≤ 10 := by
    have h9 : (bps.map (·.2)).length ≤ 10 := by rw [eb]; exact i1
    rw [List.length_map] at h9
    exact h9
  refine (c_BL_queued l E h bl bcs bal barr dk qu qal qarr med cs cal carr bps rqs S.mf cps sv S.ul S.tm S.hd S.up S.wy S.sd S.il S.nn S.hi S.mi S.ev S.ab hS hb10 hq41 hc6 i).mono2 ?_
  rintro r h1 e0 e1 ⟨rfl, rfl⟩
  exact ⟨by rw [← eq, atI_map]; cases atI rqs i <;> rfl, ⟨dk, rqs, sv, hB⟩, KB.rfl⟩
theorem m_request (l : Launch) (E : fh_E) (h : fh_H) (bl med : Nat) (S : mS) (t : Nat) (hS0 : ALy E h bl med S) (hI : Inv S t) (n w : Int32) : fh_Met l y_BL_request w_BL_request ({ frames := 5, cells := 0, slots := 0, locals := 108 }) E [.ref bl, .int n, .int w] h (fun r h1 => r = some (.int (match lvM S n with | some r => rqM r w | none => -1)) ∧ ALy E h1 bl med (S) ∧ KB h h1 med) 0 0 := by
  obtain ⟨dk, rqs, sv, hS⟩ := hS0
  have hB := hS
  obtain ⟨bcs, bal, barr, qu, qal, qarr, cs, cal, carr, bps, cps, hS, eb, eq, ec, es⟩ := hS
  have hI0 := hI
  obtain ⟨i1, i2, i3, i4, i5, i6, i7, i8, i9, i10, i11, i12, n0, hn0, i13⟩ := hI
  have hD := hS.2.2.1
  have hq41 : rqs.length ≤ 41 := by have : (rqs.map (·.2)).length ≤ 40 := by rw [eq]; exact i2
                                    rw [List.length_map] at this; omega
  have hc6 : cps.length ≤ 6 := by have : (cps.map (·.2)).length ≤ 6 := by rw [ec]; exact i3
                                  rw [List.length_map] at this; exact this
  have hB : ∀ c ∈ cps, bOK c.2.1 := fun c hc => i6 c.2 (by rw [← ec]; exact List.mem_map.mpr ⟨c, hc, rfl⟩)
  have lc : cps.length = S.ca.length := by rw [← ec, List.length_map]
  have hb10 : bps.length ≤ 10 := by
    have h9 : (bps.map (·.2)).length ≤ 10 := by rw [eb]; exact i1
    rw [List.length_map] at h9
    exact h9
  refine (c_BL_request l E h bl bcs bal barr dk qu qal qarr med cs cal carr bps rqs S.mf cps sv S.ul S.tm S.hd S.up S.wy S.sd S.il S.nn S.hi S.mi S.ev S.ab hS hb10 hq41 hc6 n w).mono2 ?_
  rintro r h1 e0 e1 ⟨rfl, rfl⟩
  exact ⟨by rw [lv_er eq es]; cases lvR rqs sv n <;> rfl, ⟨dk, rqs, sv, hB⟩, KB.rfl⟩
theorem m_told (l : Launch) (E : fh_E) (h : fh_H) (bl med : Nat) (S : mS) (t : Nat) (hS0 : ALy E h bl med S) (hI : Inv S t) (w : Int32) : fh_Met l y_BL_told w_BL_told ({ frames := 2, cells := 0, slots := 0, locals := 40 }) E [.ref bl, .int w] h (fun r h1 => r = some (.int (tdM S w)) ∧ ALy E h1 bl med (S) ∧ KB h h1 med) 0 0 := by
  obtain ⟨dk, rqs, sv, hS⟩ := hS0
  have hB := hS
  obtain ⟨bcs, bal, barr, qu, qal, qarr, cs, cal, carr, bps, cps, hS, eb, eq, ec, es⟩ := hS
  have hI0 := hI
  obtain ⟨i1, i2, i3, i4, i5, i6, i7, i8, i9, i10, i11, i12, n0, hn0, i13⟩ := hI
  have hD := hS.2.2.1
  have hq41 : rqs.length ≤ 41 := by have : (rqs.map (·.2)).length ≤ 40 := by rw [eq]; exact i2
                                    rw [List.length_map] at this; omega
  have hc6 : cps.length ≤ 6 := by have : (cps.map (·.2)).length ≤ 6 := by rw [ec]; exact i3
                                  rw [List.length_map] at this; exact this
  have hB : ∀ c ∈ cps, bOK c.2.1 := fun c hc => i6 c.2 (by rw [← ec]; exact List.mem_map.mpr ⟨c, hc, rfl⟩)
  have lc : cps.length = S.ca.length := by rw [← ec, List.length_map]
  have hb10 : bps.length ≤ 10 := by
    have h9 : (bps.map (·.2)).length ≤ 10 := by rw [eb]; exact i1
    rw [List.length_map] at h9
    exact h9
  refine (c_BL_told l E h bl bcs bal barr dk qu qal qarr med cs cal carr bps rqs S.mf cps sv S.ul S.tm S.hd S.up S.wy S.sd S.il S.nn S.hi S.mi S.ev S.ab hS hb10 hq41 hc6 w).mono2 ?_
  rintro r h1 e0 e1 ⟨rfl, rfl⟩
  exact ⟨by unfold tdT tdM; rw [← eb, ← eq, ← ec, ← es, List.length_map, List.length_map, List.length_map]; cases sv <;> rfl, ⟨dk, rqs, sv, hB⟩, KB.rfl⟩
def poM (S : mS) (w : Int32) : mS := (mkS S.q S.mf S.ca S.sv S.ul S.tm S.hd S.up w S.sd S.il S.bs S.nn S.hi S.mi S.ev S.ab)
theorem m_policy (l : Launch) (E : fh_E) (h : fh_H) (bl med : Nat) (S : mS) (t : Nat) (hS0 : ALy E h bl med S) (hI : Inv S t) (n : Nat) (hn : n < 5) : fh_Met l y_BL_policy w_BL_policy ({ frames := 6, cells := 1, slots := 6, locals := 82 }) E [.ref bl, .int (nI n)] h (fun r h1 => r = some (.int (S.wy)) ∧ ALy E h1 bl med (poM S (nI n)) ∧ KB h h1 med) 1 6 := by
  obtain ⟨dk, rqs, sv, hS⟩ := hS0
  obtain ⟨bcs, bal, barr, qu, qal, qarr, cs, cal, carr, bps, cps, hS, eb, eq, ec, es⟩ := hS
  have hI0 := hI
  obtain ⟨i1, i2, i3, i4, i5, i6, i7, i8, i9, i10, i11, i12, n0, hn0, i13⟩ := hI
  have hD := hS.2.2.1
  have hq41 : rqs.length ≤ 41 := by have : (rqs.map (·.2)).length ≤ 40 := by rw [eq]; exact i2
                                    rw [List.length_map] at this; omega
  have hc6 : cps.length ≤ 6 := by have : (cps.map (·.2)).length ≤ 6 := by rw [ec]; exact i3
                                  rw [List.length_map] at this; exact this
  have hB : ∀ c ∈ cps, bOK c.2.1 := fun c hc => i6 c.2 (by rw [← ec]; exact List.mem_map.mpr ⟨c, hc, rfl⟩)
  have lc : cps.length = S.ca.length := by rw [← ec, List.length_map]
  have hb10 : bps.length ≤ 10 := by
    have h9 : (bps.map (·.2)).length ≤ 10 := by rw [eb]; exact i1
    rw [List.length_map] at h9
    exact h9
  refine (c_BL_policy l E h bl bcs bal barr dk qu qal qarr med cs cal carr bps rqs S.mf cps sv S.ul S.tm S.hd S.up S.wy S.sd S.il S.nn S.hi S.mi S.ev S.ab hS n hn).mono2 ?_
  rintro r h1 e0 e1 ⟨rfl, g1, g2, g3⟩
  refine ⟨rfl, ⟨dk, rqs, sv, bcs, bal, barr, qu, qal, qarr, cs, cal, carr, bps, cps, g1, eb, eq, ec, es⟩, KB.of g2 ?_⟩
  intro b e hb z
  rw [z, hD.1] at hb; cases hb; exact Or.inr (by show ¬ (5 = 7); decide)
def crM (S : mS) : mS := (mkS ([]) S.mf ([]) none 0 S.tm 0 1 S.wy S.sd S.il ([]) S.nn S.hi S.mi S.ev S.ab)
def loM (S : mS) : Nat → Nat
  | 0 => 0
  | k + 1 => loM S k + if newM S (nI k) = S.mf k then 0 else 1
theorem loM_le (S : mS) : ∀ k, loM S k ≤ k := by
  intro k
  induction k with
  | zero => exact Nat.le_refl _
  | succ k ih => show loM S k + (if _ then _ else _) ≤ k + 1; split <;> omega
theorem DKs.clrQ {E : fh_E} {h h1 : fh_H} {dk qu qal qarr med cs cal carr : Nat} {rqs : List tQ} {mf : Nat → Int32} {cps : List tC} {sv : Option tQ} {ul tm hd up wy sd il : Int32} (hD : DKs E h dk qu qal qarr med cs cal carr rqs mf cps sv ul tm hd up wy sd il) (e0 : h (fh_ed E) = none) (e1 : h1 (fh_ed E) = none) (hQ2 : QLs E h1 qu qal qarr []) (F : Fr h h1 (fun b => b = qal ∨ b = qarr)) : DKs E h1 dk qu qal qarr med cs cal carr [] mf cps sv ul tm hd up wy sd il := by
  obtain ⟨hd0, hQ, hm, hC, hsv, hnd, hqc, hqa⟩ := hD
  obtain ⟨m1, kq⟩ := hQ.2.1.al
  obtain ⟨m2, kc⟩ := hC.2.1.al
  have ob : ∀ {a i : Nat} {fs : List Value}, h a = some (.inr (i, fs)) → (i = 0 → a ≠ qal) → ¬ (a = qal ∨ a = qarr) := by
    intro a i fs ha i0 z
    rcases z with z | z
    · by_cases w : i = 0
      · exact i0 w z
      · exact fh_ne ha kq w z
    · exact hQ.2.1.neO e0 ha z
  refine ⟨F _ _ hd0 (ob hd0 (fun z => by cases z)), hQ2, F _ _ hm (fun z => z.elim (fun z => fh_neA hm kq z) (fun z => hQ.2.1.neI e0 hm z)), hC.keep F (ob hC.1 (fun z => by cases z)) (ob kc (fun _ z => hqc z.symm)) (fun e he z => z.elim (fun z => hC.2.1.neO e0 kq z.symm) (fun z => hqa e (by rw [← z]; exact he) z.symm)) (fun r hr => ob (hC.2.2 r hr) (fun z => by cases z)), fun r z => ⟨F _ _ (hsv r z).1 (ob (hsv r z).1 (fun z => by cases z)), fun w => by cases w⟩, List.nodup_nil, hqc, fun x hx => ?_⟩
  obtain ⟨y, hy⟩ := hQ.2.1.back e1 hx
  exact hqa _ hy
set_option maxHeartbeats 4000000 in
set_option maxRecDepth 100000 in
theorem c_BL_crash (l : Launch) (E : fh_E) (h : fh_H) (bl med : Nat) (S : mS) (t : Nat) (hS0 : ALy E h bl med S) (hI : Inv S t)  : fh_Met l y_BL_crash w_BL_crash ({ frames := 7, cells := 0, slots := 0, locals := 152 }) E [.ref bl] h (fun r h1 => r = some (.int (nI (loM S 256))) ∧ ALy E h1 bl med (crM S) ∧ KB h h1 med) 0 0 := by
  refine fh_ofW (cc := b_BL_crash) (maxL := 3) (ret := (some .int)) (by decide) rfl (Nat.le_of_ble_eq_true rfl) ?_
  intro p e s m below meth c A ls hx hb hr hml hown hts hlocks hname hnoh hadm hA hK hZ hP hS hl
  have hG : ∀ w ∈ G, w.before _ s = true := fun w hw => hts w (List.mem_cons_of_mem _ hw)
  have hown : s.vm.findClass R_BL = some m.cls := hown
  have hl : lv_has ls 3 [(0, .ref bl)] := hl
  obtain ⟨dk, rqs, sv, hB⟩ := hS0
  have hed := hZ.edn hP
  obtain ⟨bcs, bal, barr, qu, qal, qarr, cs, cal, carr, bps, cps, hS1, eb, eq, ec, es⟩ := id hB
  obtain ⟨hb0, hBC, hDK, hap⟩ := id hS1
  obtain ⟨hd0, hQ, hm, hC, hsv, hnd, hqc, hqa⟩ := id hDK
  have kqu := hQ.1
  have kcs := hC.1
  have kbc := hBC.1
  have hb10 : bps.length ≤ 10 := by
    have h9 : (bps.map (·.2)).length ≤ 10 := by rw [eb]; exact hI.bs10
    rw [List.length_map] at h9
    exact h9
  have hq40 : rqs.length ≤ 40 := by
    have h9 : (rqs.map (·.2)).length ≤ 40 := by rw [eq]; exact hI.q40
    rw [List.length_map] at h9
    exact h9
  have hc6 : cps.length ≤ 6 := by
    have h9 : (cps.map (·.2)).length ≤ 6 := by rw [ec]; exact hI.ca6
    rw [List.length_map] at h9
    exact h9
  refine lv_iconst (v := 0) hx hb d_BL_crash_0 (by decide) ?_
  refine lv_istore_n (lv' := [(1, .int 0), (0, .ref bl)]) hx hb d_BL_crash_1 rfl hl (by decide) rfl (fun ls hl => ?_)
  refine lv_iconst (v := 0) hx hb d_BL_crash_2 (by decide) ?_
  refine lv_istore_n (lv' := [(2, .int 0), (1, .int 0), (0, .ref bl)]) hx hb d_BL_crash_3 rfl hl (by decide) rfl (fun ls hl => ?_)
  have loop : ∀ (f k : Nat) (H : Heap) (locs : List Loc) (ls : Array Slot), k + f = 256 → lv_has ls 3 [(2, .int (nI k)), (1, .int (nI (loM S k))), (0, .ref bl)] → fh_P E.1 vwCl A h H → va_S A s.heap H locs → W p l e ({ frames := 7, cells := 0, slots := 0, locals := 152 }) s m ([.ref bl] : List Value).toArray below meth c H locs 0 0 (MQ below (fh_Post E (fun r h1 => r = some (.int (nI (loM S 256))) ∧ ALy E h1 bl med (crM S) ∧ KB h h1 med) A) ([.ref bl] : List Value).toArray s 0 0 A) (F0 m 4 ls []) := by
    intro f
    induction f with
    | zero =>
      intro k H locs ls hkf hl hP hS
      refine lv_iload_n hx hb d_BL_crash_4 rfl (lv_at hl 0 rfl) ?_
      refine lv_sipush (v := 256) hx hb d_BL_crash_5 (by decide) ?_
      refine lv_icmp_ge (tgt := 36) hx hb d_BL_crash_8 (by decide) (fun c_1 => ?_) (fun c_1 => ?_)
      · skip
        have hk0 : k = 256 := by omega
        subst hk0
        refine lv_aload_n hx hb d_BL_crash_36 rfl (lv_at hl 2 rfl) ?_
        refine fh_get hx hb hG C_BL iG_BL hown hK hP hb0 0 (by decide) gm130 rfl d_BL_crash_37 ?_
        refine fh_callV (C := R_CS) (y := y_CS_clear) (bytes := b_CS_clear) (maxL := 1) (ret := none) (index := 113) (As := []) (rest := []) ⟨hx, hb, hml, hown, hG⟩ (c_CS_clear l E h bcs bal barr bps hBC) (cwV 0 hG (gV gm380 gm381 gm382 gm2 gm383) rfl rfl rfl ⟨rfl, hdy_CS_clear⟩ ⟨Nat.le_of_ble_eq_true rfl, Nat.le_of_ble_eq_true rfl⟩) C_CS.1 kbc hK hZ hP hS hA rfl hl.1 rfl (Nat.le_of_ble_eq_true rfl) d_BL_crash_40 ⟨Nat.le_of_ble_eq_true rfl, Nat.le_of_ble_eq_true rfl⟩ (fun r h1 H locs hq9 hP hS => ?_)
        obtain ⟨rfl, g1, g2⟩ := hq9
        have ed1 := hZ.edn hP
        have F1 : Fr h h1 (fun b => b = bal ∨ b = barr) := fun b e hb n => (g2 b (fun z => n (Or.inl z)) (fun z => n (Or.inr z))).trans hb
        have S1 := hS1.buf hed ed1 g1 F1 (Or.inl rfl) List.nodup_nil (fun b hb => by cases hb)
        have K1 : KB h h1 med := KB.of F1 (by
          intro b e hb z
          obtain ⟨m3, kb⟩ := hBC.2.1.al
          rcases z with z | z
          · rw [z, kb] at hb; cases hb; exact Or.inr (by show ¬ (0 = 7); decide)
          · rw [z] at hb; exact Or.inr (hBC.2.1.noth hed hb))
        obtain ⟨kb1, kB1, kD1, kap1⟩ := id S1
        have kd1 := kD1.1
        have kq1 := kD1.2.1.1
        refine W.eq (g2 := F0 m 43 ls []) rfl ?_
        refine lv_aload_n hx hb d_BL_crash_43 rfl (lv_at hl 2 rfl) ?_
        refine fh_get hx hb hG C_BL iG_BL hown hK hP kb1 1 (by decide) gm131 rfl d_BL_crash_44 ?_
        refine fh_get hx hb hG C_DK iG_DK hown hK hP kd1 0 (by decide) gm88 rfl d_BL_crash_47 ?_
        refine fh_callV (C := R_QU) (y := y_QU_clear) (bytes := b_QU_clear) (maxL := 1) (ret := none) (index := 120) (As := []) (rest := []) ⟨hx, hb, hml, hown, hG⟩ (c_QU_clear l E h1 qu qal qarr rqs kD1.2.1) (cwV 0 hG (gV gm388 gm389 gm390 gm7 gm391) rfl rfl rfl ⟨rfl, hdy_QU_clear⟩ ⟨Nat.le_of_ble_eq_true rfl, Nat.le_of_ble_eq_true rfl⟩) C_QU.1 kq1 hK hZ hP hS hA rfl hl.1 rfl (Nat.le_of_ble_eq_true rfl) d_BL_crash_50 ⟨Nat.le_of_ble_eq_true rfl, Nat.le_of_ble_eq_true rfl⟩ (fun r h2 H locs hq9 hP hS => ?_)
        obtain ⟨rfl, j1, j2⟩ := hq9
        have ed2 := hZ.edn hP
        have F2 : Fr h1 h2 (fun b => b = qal ∨ b = qarr) := fun b e hb n => (j2 b (fun z => n (Or.inl z)) (fun z => n (Or.inr z))).trans hb
        have D2 := kD1.clrQ ed1 ed2 j1 F2
        have S2 := S1.disk ed1 ed2 (r9 := dk) (Or.inl rfl) D2 (F2.mono (fun b z => by omega)) (Or.inl rfl) (Or.inl rfl) kap1.2.2.2.2.2
        have K2 : KB h1 h2 med := KB.of F2 (by
          intro b e hb z
          obtain ⟨m3, kb⟩ := kD1.2.1.2.1.al
          rcases z with z | z
          · rw [z, kb] at hb; cases hb; exact Or.inr (by show ¬ (0 = 7); decide)
          · rw [z] at hb; exact Or.inr (kD1.2.1.2.1.noth ed1 hb))
        obtain ⟨kb2, kB2, kD2, kap2⟩ := id S2
        have kd2 := kD2.1
        refine W.eq (g2 := F0 m 53 ls []) rfl ?_
        refine lv_aload_n hx hb d_BL_crash_53 rfl (lv_at hl 2 rfl) ?_
        refine fh_get hx hb hG C_BL iG_BL hown hK hP kb2 1 (by decide) gm131 rfl d_BL_crash_54 ?_
        refine fh_callV (C := R_DK) (y := y_DK_loseAllButMedia) (bytes := b_DK_loseAllButMedia) (maxL := 1) (ret := none) (index := 123) (As := []) (rest := []) ⟨hx, hb, hml, hown, hG⟩ (c_DK_loseAllButMedia l E h2 dk qu qal qarr med cs cal carr [] S.mf cps sv _ _ _ _ _ _ _ kD2) (cwV 0 hG (gV gm393 gm394 gm395 gm6 gm396) rfl rfl rfl ⟨rfl, hdy_DK_loseAllButMedia⟩ ⟨Nat.le_of_ble_eq_true rfl, Nat.le_of_ble_eq_true rfl⟩) C_DK.1 kd2 hK hZ hP hS hA rfl hl.1 rfl (Nat.le_of_ble_eq_true rfl) d_BL_crash_57 ⟨Nat.le_of_ble_eq_true rfl, Nat.le_of_ble_eq_true rfl⟩ (fun r h3 H locs hq9 hP hS => ?_)
        obtain ⟨rfl, p1, p2, p3⟩ := hq9
        have ed3 := hZ.edn hP
        have S3 := S2.disk ed2 ed3 (r9 := dk) (Or.inl rfl) p1 (p2.mono (fun b z => by omega)) (Or.inl rfl) (Or.inl rfl) (fun b hb => by cases hb)
        have K3 : KB h2 h3 med := KB.of p2 (by
          intro b e hb z
          obtain ⟨m3, kc⟩ := kD2.2.2.2.1.2.1.al
          rcases z with z | z | z
          · rw [z, kd2] at hb; cases hb; exact Or.inr (by show ¬ (5 = 7); decide)
          · rw [z, kc] at hb; cases hb; exact Or.inr (by show ¬ (0 = 7); decide)
          · rw [z] at hb; exact Or.inr (kD2.2.2.2.1.2.1.noth ed2 hb))
        refine W.eq (g2 := F0 m 60 ls []) rfl ?_
        refine lv_iload_n hx hb d_BL_crash_60 rfl (lv_at hl 1 rfl) ?_
        exact fh_iret hx hb hr hlocks (Nat.le_of_ble_eq_true rfl) (Nat.le_of_ble_eq_true rfl) hP hS ⟨rfl, ⟨dk, [], none, bcs, bal, barr, qu, qal, qarr, cs, cal, carr, [], [], S3, rfl, rfl, rfl, rfl⟩, (K1.trans K2).trans K3⟩ d_BL_crash_61
      · skip
        exact absurd (show nI 256 ≤ nI k from nI_le (by omega) (by omega)) c_1
    | succ f ih =>
      intro k H locs ls hkf hl hP hS
      refine lv_iload_n hx hb d_BL_crash_4 rfl (lv_at hl 0 rfl) ?_
      refine lv_sipush (v := 256) hx hb d_BL_crash_5 (by decide) ?_
      refine lv_icmp_ge (tgt := 36) hx hb d_BL_crash_8 (by decide) (fun c_2 => ?_) (fun c_2 => ?_)
      · skip
        exact absurd c_2 (nI_ge (b := 256) (by omega) (by decide))
      · skip
        refine lv_aload_n hx hb d_BL_crash_11 rfl (lv_at hl 2 rfl) ?_
        refine lv_iload_n hx hb d_BL_crash_12 rfl (lv_at hl 0 rfl) ?_
        refine fh_callV (C := R_BL) (y := y_BL_newestOf) (bytes := b_BL_newestOf) (maxL := 4) (ret := (some .int)) (index := 106) (As := [.int (nI k)]) (rest := []) ⟨hx, hb, hml, hown, hG⟩ (c_BL_newestOf l E h bl bcs bal barr dk qu qal qarr med cs cal carr bps rqs S.mf cps sv S.ul S.tm S.hd S.up S.wy S.sd S.il S.nn S.hi S.mi S.ev S.ab hS1 hb10 (by omega) hc6 k (by omega)) (cwV 1 hG (gV gm363 gm365 gs_BL_newestOf gm1 gm366) rfl rfl rfl ⟨rfl, hdy_BL_newestOf⟩ ⟨Nat.le_of_ble_eq_true rfl, Nat.le_of_ble_eq_true rfl⟩) C_BL.1 hb0 hK hZ hP hS hA rfl hl.1 rfl (Nat.le_of_ble_eq_true rfl) d_BL_crash_13 ⟨Nat.le_of_ble_eq_true rfl, Nat.le_of_ble_eq_true rfl⟩ (fun r h1 H locs hq9 hP hS => ?_)
        obtain ⟨rfl, e9⟩ := hq9
        rw [e9] at hP
        refine W.eq (g2 := F0 m 16 ls [.int (nwv bps rqs S.mf cps sv (nI k))]) rfl ?_
        refine lv_aload_n hx hb d_BL_crash_16 rfl (lv_at hl 2 rfl) ?_
        refine fh_get hx hb hG C_BL iG_BL hown hK hP hb0 1 (by decide) gm131 rfl d_BL_crash_17 ?_
        refine lv_iload_n hx hb d_BL_crash_20 rfl (lv_at hl 0 rfl) ?_
        refine fh_callV (C := R_DK) (y := y_DK_valueOnMedia) (bytes := b_DK_valueOnMedia) (maxL := 2) (ret := (some .int)) (index := 110) (As := [.int (nI k)]) (rest := [.int (nwv bps rqs S.mf cps sv (nI k))]) ⟨hx, hb, hml, hown, hG⟩ (c_DK_valueOnMedia l E h dk qu med cs _ _ _ _ _ _ _ _ hd0 S.mf hm k (by omega)) (cwV 1 hG (gV gm376 gm377 gm378 gm6 gm379) rfl rfl rfl ⟨rfl, hdy_DK_valueOnMedia⟩ ⟨Nat.le_of_ble_eq_true rfl, Nat.le_of_ble_eq_true rfl⟩) C_DK.1 hd0 hK hZ hP hS hA rfl hl.1 rfl (Nat.le_of_ble_eq_true rfl) d_BL_crash_21 ⟨Nat.le_of_ble_eq_true rfl, Nat.le_of_ble_eq_true rfl⟩ (fun r h1 H locs hq9 hP hS => ?_)
        obtain ⟨rfl, e9⟩ := hq9
        rw [e9] at hP
        refine W.eq (g2 := F0 m 24 ls [.int (S.mf k), .int (nwv bps rqs S.mf cps sv (nI k))]) rfl ?_
        refine lv_icmp_eq (tgt := 30) hx hb d_BL_crash_24 (by decide) (fun c_3 => ?_) (fun c_3 => ?_)
        · skip
          have e5 : loM S (k + 1) = loM S k := by show loM S k + (if _ then _ else _) = _; rw [if_pos ((nwv_er eb eq ec es).symm.trans c_3)]; rfl
          refine lv_iinc (v := ((nI k)) + 1) (lv' := [(2, .int (((nI k)) + 1)), (1, .int (nI (loM S k))), (0, .ref bl)]) hx hb d_BL_crash_30 hl (k := 0) rfl rfl (by decide) rfl (fun ls hl => ?_)
          refine lv_goto (tgt := 4) hx hb d_BL_crash_33 (by decide) ?_
          exact ih (k + 1) H locs ls (by omega) (by rw [nI_succ, e5]; exact hl) hP hS
        · skip
          have e5 : loM S (k + 1) = loM S k + 1 := by show loM S k + (if _ then _ else _) = _; rw [if_neg (fun w => c_3 ((nwv_er eb eq ec es).trans w))]
          refine lv_iinc (v := ((nI (loM S k))) + 1) (lv' := [(1, .int (((nI (loM S k))) + 1)), (2, .int (nI k)), (0, .ref bl)]) hx hb d_BL_crash_27 hl (k := 1) rfl rfl (by decide) rfl (fun ls hl => ?_)
          refine lv_iinc (v := ((nI k)) + 1) (lv' := [(2, .int (((nI k)) + 1)), (1, .int (((nI (loM S k))) + 1)), (0, .ref bl)]) hx hb d_BL_crash_30 hl (k := 1) rfl rfl (by decide) rfl (fun ls hl => ?_)
          refine lv_goto (tgt := 4) hx hb d_BL_crash_33 (by decide) ?_
          exact ih (k + 1) H locs ls (by omega) (by rw [e5, nI_succ, nI_succ]; exact hl) hP hS
  exact loop 256 0 _ _ ls (by omega) (by rw [nI_0]; exact hl) hP hS

