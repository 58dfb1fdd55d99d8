/-! THE JDK's LIST: its cell, its array, its elements (by their addresses). -/
def LI (E : fh_E) (h : fh_H) (al arr : Nat) (xs : List Nat) : Prop :=
  ∃ (md : Int32) (cap : Nat) (f : Nat → Option Nat), h al = some (.inr (0, [.ref arr, .int (nI xs.length), .int md])) ∧ xs.length ≤ cap ∧ cap ≤ 73 ∧ (∀ i, i < xs.length → f i = xs[i]?) ∧ ((arr = fh_ed E ∧ cap = 0) ∨ 2 ≤ cap ∧ h arr = some (.inl (fh_cO E, cap, .inr (.inr (.inr (.inr f))))))

set_option maxHeartbeats 4000000 in
set_option maxRecDepth 100000 in
theorem c_PR_checkIndex (l : Launch) (E : fh_E) (h : fh_H) (i n : Nat) (hi : i < n) (hn : n < 2 ^ 31) : fh_Met l y_PR_checkIndex w_PR_checkIndex ({ frames := 0, cells := 0, slots := 0, locals := 0 }) E [.int (nI i), .int (nI n), .null] h (fun r h1 => r = some (.int (nI i)) ∧ h1 = h) 0 0 := by
  refine fh_ofW (cc := b_PR_checkIndex) (maxL := 3) (ret := (some .int)) (by decide) rfl (Nat.le_of_ble_eq_true rfl) ?_
  intro p e s m below meth c A ls hx hb hr hml hown hts hlocks hname hnoh hadm hA hK hZ hP hS hl
  have hG : ∀ w ∈ G, w.before _ s = true := fun w hw => hts w (List.mem_cons_of_mem _ hw)
  have hown : s.vm.findClass R_PR = some m.cls := hown
  have hl : lv_has ls 3 [(0, .int (nI i)), (1, .int (nI n)), (2, .null)] := hl
  refine lv_iload_n hx hb d_PR_checkIndex_0 rfl (lv_at hl 0 rfl) ?_
  refine lv_if_lt (tgt := 9) hx hb d_PR_checkIndex_1 (by decide) (fun c_1 => ?_) (fun c_1 => ?_)
  · skip
    exact absurd c_1 (nI_pos (by omega))
  · skip
    refine lv_iload_n hx hb d_PR_checkIndex_4 rfl (lv_at hl 0 rfl) ?_
    refine lv_iload_n hx hb d_PR_checkIndex_5 rfl (lv_at hl 1 rfl) ?_
    refine lv_icmp_lt (tgt := 16) hx hb d_PR_checkIndex_6 (by decide) (fun c_2 => ?_) (fun c_2 => ?_)
    · skip
      refine lv_iload_n hx hb d_PR_checkIndex_16 rfl (lv_at hl 0 rfl) ?_
      exact fh_iret hx hb hr hlocks (Nat.le_of_ble_eq_true rfl) (Nat.le_of_ble_eq_true rfl) hP hS ⟨rfl, rfl⟩ d_PR_checkIndex_17
    · skip
      exact absurd (nI_lt hi hn) c_2

set_option maxHeartbeats 4000000 in
set_option maxRecDepth 100000 in
theorem c_OB_checkIndex (l : Launch) (E : fh_E) (h : fh_H) (i n : Nat) (hi : i < n) (hn : n < 2 ^ 31) : fh_Met l y_OB_checkIndex w_OB_checkIndex ({ frames := 1, cells := 0, slots := 0, locals := 22 }) E [.int (nI i), .int (nI n)] h (fun r h1 => r = some (.int (nI i)) ∧ h1 = h) 0 0 := by
  refine fh_ofW (cc := b_OB_checkIndex) (maxL := 2) (ret := (some .int)) (by decide) rfl (Nat.le_of_ble_eq_true rfl) ?_
  intro p e s m below meth c A ls hx hb hr hml hown hts hlocks hname hnoh hadm hA hK hZ hP hS hl
  have hG : ∀ w ∈ G, w.before _ s = true := fun w hw => hts w (List.mem_cons_of_mem _ hw)
  have hown : s.vm.findClass R_OB = some m.cls := hown
  have hl : lv_has ls 2 [(0, .int (nI i)), (1, .int (nI n))] := hl
  refine lv_iload_n hx hb d_OB_checkIndex_0 rfl (lv_at hl 0 rfl) ?_
  refine lv_iload_n hx hb d_OB_checkIndex_1 rfl (lv_at hl 1 rfl) ?_
  refine lv_null hx hb d_OB_checkIndex_2 ?_
  refine fh_callS (y := y_PR_checkIndex) (bytes := b_PR_checkIndex) (maxL := 3) (ret := (some .int)) (index := 105) (As := [.int (nI i), .int (nI n), .null]) (rest := []) ⟨hx, hb, hml, hown, hG⟩ (c_PR_checkIndex l E h i n hi hn) ⟨callB_of 3 hG (gB gm193) rfl rfl rfl (hG _ gm15) (hG _ gm191) hdy_PR_checkIndex ⟨Nat.le_of_ble_eq_true rfl, Nat.le_of_ble_eq_true rfl⟩, hG _ gm192⟩ hK hZ hP hS hA rfl hl.1 rfl (Nat.le_of_ble_eq_true rfl) d_OB_checkIndex_3 ⟨Nat.le_of_ble_eq_true rfl, Nat.le_of_ble_eq_true rfl⟩ (fun r h1 H locs hq9 hP hS => ?_)
  obtain ⟨rfl, e9⟩ := hq9
  rw [e9] at hP
  refine W.eq (g2 := F0 m 6 ls [.int (nI i)]) rfl ?_
  exact fh_iret hx hb hr hlocks (Nat.le_of_ble_eq_true rfl) (Nat.le_of_ble_eq_true rfl) hP hS ⟨rfl, rfl⟩ d_OB_checkIndex_6

set_option maxHeartbeats 4000000 in
set_option maxRecDepth 100000 in
theorem c_AL_elementData (l : Launch) (E : fh_E) (h : fh_H) (al arr cap : Nat) (f : Nat → Option Nat) (sz md : Int32) (i q : Nat) (ha : h al = some (.inr (0, [.ref arr, .int sz, .int md]))) (hr0 : h arr = some (.inl (fh_cO E, cap, .inr (.inr (.inr (.inr f)))))) (hi : i < cap) (hc : cap ≤ 1000) (hq : f i = some q) : fh_Met l y_AL_elementData w_AL_elementData ({ frames := 0, cells := 0, slots := 0, locals := 0 }) E [.ref al, .int (nI i)] h (fun r h1 => r = some (.ref q) ∧ h1 = h) 0 0 := by
  refine fh_ofW (cc := b_AL_elementData) (maxL := 2) (ret := (some (.object "java/lang/Object"))) (by decide) rfl (Nat.le_of_ble_eq_true rfl) ?_
  intro p e s m below meth c A ls hx hb hr hml hown hts hlocks hname hnoh hadm hA hK hZ hP hS hl
  have hG : ∀ w ∈ G, w.before _ s = true := fun w hw => hts w (List.mem_cons_of_mem _ hw)
  have hown : s.vm.findClass R_AL = some m.cls := hown
  have hl : lv_has ls 2 [(0, .ref al), (1, .int (nI i))] := hl
  refine lv_aload_n hx hb d_AL_elementData_0 rfl (lv_at hl 0 rfl) ?_
  refine fh_get hx hb hG C_AL iG_AL hown hK hP ha 0 (by decide) gm51 rfl d_AL_elementData_1 ?_
  refine lv_iload_n hx hb d_AL_elementData_4 rfl (lv_at hl 1 rfl) ?_
  refine fh_aldq hx hb hK hP 2 hr0 rfl (vp_in_nI hi (by omega)) d_AL_elementData_5 ?_
  refine W.eq (g2 := F0 m 6 ls [.ref q]) (by rw [nI_clamp (by omega), hq]; rfl) ?_
  exact fh_aret hx hb hr (Or.inl ⟨_, rfl⟩) (Or.inr ⟨_, rfl⟩) hlocks (Nat.le_of_ble_eq_true rfl) (Nat.le_of_ble_eq_true rfl) hP hS ⟨rfl, rfl⟩ d_AL_elementData_6

set_option maxHeartbeats 4000000 in
set_option maxRecDepth 100000 in
theorem c_AL_size (l : Launch) (E : fh_E) (h : fh_H) (al : Nat) (ar : Value) (sz md : Int32) (ha : h al = some (.inr (0, [ar, .int sz, .int md]))) : fh_Met l y_AL_size w_AL_size ({ frames := 0, cells := 0, slots := 0, locals := 0 }) E [.ref al] h (fun r h1 => r = some (.int sz) ∧ h1 = h) 0 0 := by
  refine fh_ofW (cc := b_AL_size) (maxL := 1) (ret := (some .int)) (by decide) rfl (Nat.le_of_ble_eq_true rfl) ?_
  intro p e s m below meth c A ls hx hb hr hml hown hts hlocks hname hnoh hadm hA hK hZ hP hS hl
  have hG : ∀ w ∈ G, w.before _ s = true := fun w hw => hts w (List.mem_cons_of_mem _ hw)
  have hown : s.vm.findClass R_AL = some m.cls := hown
  have hl : lv_has ls 1 [(0, .ref al)] := hl
  refine lv_aload_n hx hb d_AL_size_0 rfl (lv_at hl 0 rfl) ?_
  refine fh_get hx hb hG C_AL iG_AL hown hK hP ha 1 (by decide) gm52 rfl d_AL_size_1 ?_
  exact fh_iret hx hb hr hlocks (Nat.le_of_ble_eq_true rfl) (Nat.le_of_ble_eq_true rfl) hP hS ⟨rfl, rfl⟩ d_AL_size_4

set_option maxHeartbeats 4000000 in
set_option maxRecDepth 100000 in
theorem c_AL_isEmpty (l : Launch) (E : fh_E) (h : fh_H) (al : Nat) (ar : Value) (sz md : Int32) (ha : h al = some (.inr (0, [ar, .int sz, .int md]))) : fh_Met l y_AL_isEmpty w_AL_isEmpty ({ frames := 0, cells := 0, slots := 0, locals := 0 }) E [.ref al] h (fun r h1 => r = some (.int (if sz = 0 then 1 else 0)) ∧ h1 = h) 0 0 := by
  refine fh_ofW (cc := b_AL_isEmpty) (maxL := 1) (ret := (some .boolean)) (by decide) rfl (Nat.le_of_ble_eq_true rfl) ?_
  intro p e s m below meth c A ls hx hb hr hml hown hts hlocks hname hnoh hadm hA hK hZ hP hS hl
  have hG : ∀ w ∈ G, w.before _ s = true := fun w hw => hts w (List.mem_cons_of_mem _ hw)
  have hown : s.vm.findClass R_AL = some m.cls := hown
  have hl : lv_has ls 1 [(0, .ref al)] := hl
  refine lv_aload_n hx hb d_AL_isEmpty_0 rfl (lv_at hl 0 rfl) ?_
  refine fh_get hx hb hG C_AL iG_AL hown hK hP ha 1 (by decide) gm52 rfl d_AL_isEmpty_1 ?_
  refine lv_if_ne (tgt := 11) hx hb d_AL_isEmpty_4 (by decide) (fun c_1 => ?_) (fun c_1 => ?_)
  · skip
    refine lv_iconst (v := 0) hx hb d_AL_isEmpty_11 (by decide) ?_
    exact fh_zret hx hb hr rfl hlocks (Nat.le_of_ble_eq_true rfl) (Nat.le_of_ble_eq_true rfl) hP hS ⟨by rw [if_neg c_1], rfl⟩ d_AL_isEmpty_12
  · skip
    refine lv_iconst (v := 1) hx hb d_AL_isEmpty_7 (by decide) ?_
    refine lv_goto (tgt := 12) hx hb d_AL_isEmpty_8 (by decide) ?_
    exact fh_zret hx hb hr rfl hlocks (Nat.le_of_ble_eq_true rfl) (Nat.le_of_ble_eq_true rfl) hP hS ⟨by rw [if_pos c_1], rfl⟩ d_AL_isEmpty_12

set_option maxHeartbeats 4000000 in
set_option maxRecDepth 100000 in
theorem c_AL_get (l : Launch) (E : fh_E) (h : fh_H) (al arr : Nat) (xs : List Nat) (i q : Nat) (hL : LI E h al arr xs) (hq : xs[i]? = some q) : fh_Met l y_AL_get w_AL_get ({ frames := 2, cells := 0, slots := 0, locals := 43 }) E [.ref al, .int (nI i)] h (fun r h1 => r = some (.ref q) ∧ h1 = h) 0 0 := by
  refine fh_ofW (cc := b_AL_get) (maxL := 2) (ret := (some (.object "java/lang/Object"))) (by decide) rfl (Nat.le_of_ble_eq_true rfl) ?_
  intro p e s m below meth c A ls hx hb hr hml hown hts hlocks hname hnoh hadm hA hK hZ hP hS hl
  have hG : ∀ w ∈ G, w.before _ s = true := fun w hw => hts w (List.mem_cons_of_mem _ hw)
  have hown : s.vm.findClass R_AL = some m.cls := hown
  have hl : lv_has ls 2 [(0, .ref al), (1, .int (nI i))] := hl
  obtain ⟨md, cap, f, ha, hlen, hcap, hf, hr0⟩ := hL
  have hi : i < xs.length := (List.getElem?_eq_some_iff.mp hq).1
  have hr0 : h arr = some (.inl (fh_cO E, cap, .inr (.inr (.inr (.inr f))))) := (hr0.resolve_left (fun z => by omega)).2
  refine lv_iload_n hx hb d_AL_get_0 rfl (lv_at hl 1 rfl) ?_
  refine lv_aload_n hx hb d_AL_get_1 rfl (lv_at hl 0 rfl) ?_
  refine fh_get hx hb hG C_AL iG_AL hown hK hP ha 1 (by decide) gm52 rfl d_AL_get_2 ?_
  refine fh_callS (y := y_OB_checkIndex) (bytes := b_OB_checkIndex) (maxL := 2) (ret := (some .int)) (index := 118) (As := [.int (nI i), .int (nI xs.length)]) (rest := []) ⟨hx, hb, hml, hown, hG⟩ (c_OB_checkIndex l E h i xs.length hi (by omega)) ⟨callB_of 2 hG (gB gm190) rfl rfl rfl (hG _ gm14) (hG _ gm188) hdy_OB_checkIndex ⟨Nat.le_of_ble_eq_true rfl, Nat.le_of_ble_eq_true rfl⟩, hG _ gm189⟩ hK hZ hP hS hA rfl hl.1 rfl (Nat.le_of_ble_eq_true rfl) d_AL_get_5 ⟨Nat.le_of_ble_eq_true rfl, Nat.le_of_ble_eq_true rfl⟩ (fun r h1 H locs hq9 hP hS => ?_)
  obtain ⟨rfl, e9⟩ := hq9
  rw [e9] at hP
  refine W.eq (g2 := F0 m 8 ls [.int (nI i)]) rfl ?_
  refine lv_pop hx hb d_AL_get_8 rfl ?_
  refine lv_aload_n hx hb d_AL_get_9 rfl (lv_at hl 0 rfl) ?_
  refine lv_iload_n hx hb d_AL_get_10 rfl (lv_at hl 1 rfl) ?_
  refine fh_callV (C := R_AL) (y := y_AL_elementData) (bytes := b_AL_elementData) (maxL := 2) (ret := (some (.object "java/lang/Object"))) (index := 123) (As := [.int (nI i)]) (rest := []) ⟨hx, hb, hml, hown, hG⟩ (c_AL_elementData l E h al arr cap f _ md i q ha hr0 (by omega) (by omega) (by rw [hf i hi]; exact hq)) (cwV 1 hG (gV gm194 gm195 gm196 gm5 gm197) rfl rfl rfl ⟨rfl, hdy_AL_elementData⟩ ⟨Nat.le_of_ble_eq_true rfl, Nat.le_of_ble_eq_true rfl⟩) C_AL.1 ha hK hZ hP hS hA rfl hl.1 rfl (Nat.le_of_ble_eq_true rfl) d_AL_get_11 ⟨Nat.le_of_ble_eq_true rfl, Nat.le_of_ble_eq_true rfl⟩ (fun r h1 H locs hq9 hP hS => ?_)
  obtain ⟨rfl, e9⟩ := hq9
  rw [e9] at hP
  refine W.eq (g2 := F0 m 14 ls [.ref q]) rfl ?_
  exact fh_aret hx hb hr (Or.inl ⟨_, rfl⟩) (Or.inr ⟨_, rfl⟩) hlocks (Nat.le_of_ble_eq_true rfl) (Nat.le_of_ble_eq_true rfl) hP hS ⟨rfl, rfl⟩ d_AL_get_14
