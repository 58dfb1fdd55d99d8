/-! THE REFERENCE: a request is copied. -/
def cpA (ar : Nat → Nat → Int32) (i j : Nat) : Nat → Nat → Int32 := va_up (va_up (va_up (va_up (va_up ar 16 (upd (ar 16) j (ar 16 i))) 17 (upd (ar 17) j (ar 17 i))) 18 (upd (ar 18) j (ar 18 i))) 19 (upd (ar 19) j (ar 19 i))) 20 (upd (ar 20) j (ar 20 i))
set_option maxHeartbeats 400000 in
set_option maxRecDepth 100000 in
theorem c_MD_copyRequest (l : Launch) (E : fh_E) (h : fh_H) (md : Nat) (ad : Nat → Nat) (sc : Nat → Int32) (ar : Nat → Nat → Int32) (hM : MDs E h md ad sc ar) (i j : Nat) (hi : i < 41) (hj : j < 41) : fh_Met l y_MD_copyRequest w_MD_copyRequest ({ frames := 0, cells := 0, slots := 0, locals := 0 }) E [.ref md, .int (nI i), .int (nI j)] h (fun r h1 => r = none ∧ MDs E h1 md ad sc (cpA ar i j) ∧ KM h h1 md ad) 0 0 := by
  refine fh_ofW (cc := b_MD_copyRequest) (maxL := 3) (ret := none) (by decide) rfl (Nat.le_of_ble_eq_true rfl) ?_
  intro p e s m below meth c A ls hx hb hr hml hown hts hlocks hname hnoh hadm hA hK hZ hP hS hl
  have hG : ∀ w ∈ G, w.before _ s = true := fun w hw => hts w (List.mem_cons_of_mem _ hw)
  have hown : s.vm.findClass R_MD = some m.cls := hown
  have hl : lv_has ls 3 [(0, .ref md), (1, .int (nI i)), (2, .int (nI j))] := hl
  have km_1 : h md = some (.inr (7, [.int (sc 0), .int (sc 1), .int (sc 2), .int (sc 3), .int (sc 4), .int (sc 5), .int (sc 6), .int (sc 7), .int (sc 8), .ref (ad 9), .int (sc 10), .ref (ad 11), .ref (ad 12), .ref (ad 13), .int (sc 14), .int (sc 15), .ref (ad 16), .ref (ad 17), .ref (ad 18), .ref (ad 19), .ref (ad 20), .int (sc 21), .ref (ad 22), .ref (ad 23), .int (sc 24), .int (sc 25), .int (sc 26), .int (sc 27), .int (sc 28)])) := hM.1
  have ka_2 : h (ad 16) = some (.inl (fh_cI E, 41, .inl (ar 16))) := hM.2.1 16 rfl
  refine lv_aload_n hx hb d_MD_copyRequest_0 rfl (lv_at hl 0 rfl) ?_
  refine fh_get hx hb hG C_MD iG_MD hown hK hP km_1 16 (by decide) gm689 rfl d_MD_copyRequest_1 ?_
  refine lv_iload_n hx hb d_MD_copyRequest_4 rfl (lv_at hl 2 rfl) ?_
  refine lv_aload_n hx hb d_MD_copyRequest_5 rfl (lv_at hl 0 rfl) ?_
  refine fh_get hx hb hG C_MD iG_MD hown hK hP km_1 16 (by decide) gm689 rfl d_MD_copyRequest_6 ?_
  refine lv_iload_n hx hb d_MD_copyRequest_9 rfl (lv_at hl 1 rfl) ?_
  refine fh_ialK hx hb hK hP 0 ka_2 rfl (k := i) (by omega) (by decide) d_MD_copyRequest_10 ?_
  refine fh_iasK hx hb hK hP hS 0 ka_2 rfl (k := j) (by omega) (by decide) d_MD_copyRequest_11 (fun H locs hP hS => ?_)
  obtain ⟨w_3, ew_4⟩ : ∃ z : fh_H, z = va_up h (ad 16) (some (.inl (fh_cI E, 41, .inl (upd (ar 16) j (ar 16 i))))) := ⟨_, rfl⟩
  rw [← ew_4] at hP
  have m_5 := hM.setA 16 rfl ew_4
  have km_6 : w_3 md = some (.inr (7, [.int (sc 0), .int (sc 1), .int (sc 2), .int (sc 3), .int (sc 4), .int (sc 5), .int (sc 6), .int (sc 7), .int (sc 8), .ref (ad 9), .int (sc 10), .ref (ad 11), .ref (ad 12), .ref (ad 13), .int (sc 14), .int (sc 15), .ref (ad 16), .ref (ad 17), .ref (ad 18), .ref (ad 19), .ref (ad 20), .int (sc 21), .ref (ad 22), .ref (ad 23), .int (sc 24), .int (sc 25), .int (sc 26), .int (sc 27), .int (sc 28)])) := m_5.1
  have ka_7 : w_3 (ad 17) = some (.inl (fh_cI E, 41, .inl (ar 17))) := m_5.2.1 17 rfl
  refine lv_aload_n hx hb d_MD_copyRequest_12 rfl (lv_at hl 0 rfl) ?_
  refine fh_get hx hb hG C_MD iG_MD hown hK hP km_6 17 (by decide) gm690 rfl d_MD_copyRequest_13 ?_
  refine lv_iload_n hx hb d_MD_copyRequest_16 rfl (lv_at hl 2 rfl) ?_
  refine lv_aload_n hx hb d_MD_copyRequest_17 rfl (lv_at hl 0 rfl) ?_
  refine fh_get hx hb hG C_MD iG_MD hown hK hP km_6 17 (by decide) gm690 rfl d_MD_copyRequest_18 ?_
  refine lv_iload_n hx hb d_MD_copyRequest_21 rfl (lv_at hl 1 rfl) ?_
  refine fh_ialK hx hb hK hP 0 ka_7 rfl (k := i) (by omega) (by decide) d_MD_copyRequest_22 ?_
  refine fh_iasK hx hb hK hP hS 0 ka_7 rfl (k := j) (by omega) (by decide) d_MD_copyRequest_23 (fun H locs hP hS => ?_)
  obtain ⟨w_8, ew_9⟩ : ∃ z : fh_H, z = va_up w_3 (ad 17) (some (.inl (fh_cI E, 41, .inl (upd (ar 17) j (ar 17 i))))) := ⟨_, rfl⟩
  rw [← ew_9] at hP
  have m_10 := m_5.setA 17 rfl ew_9
  have km_11 : w_8 md = some (.inr (7, [.int (sc 0), .int (sc 1), .int (sc 2), .int (sc 3), .int (sc 4), .int (sc 5), .int (sc 6), .int (sc 7), .int (sc 8), .ref (ad 9), .int (sc 10), .ref (ad 11), .ref (ad 12), .ref (ad 13), .int (sc 14), .int (sc 15), .ref (ad 16), .ref (ad 17), .ref (ad 18), .ref (ad 19), .ref (ad 20), .int (sc 21), .ref (ad 22), .ref (ad 23), .int (sc 24), .int (sc 25), .int (sc 26), .int (sc 27), .int (sc 28)])) := m_10.1
  have ka_12 : w_8 (ad 18) = some (.inl (fh_cI E, 41, .inl (ar 18))) := m_10.2.1 18 rfl
  refine lv_aload_n hx hb d_MD_copyRequest_24 rfl (lv_at hl 0 rfl) ?_
  refine fh_get hx hb hG C_MD iG_MD hown hK hP km_11 18 (by decide) gm691 rfl d_MD_copyRequest_25 ?_
  refine lv_iload_n hx hb d_MD_copyRequest_28 rfl (lv_at hl 2 rfl) ?_
  refine lv_aload_n hx hb d_MD_copyRequest_29 rfl (lv_at hl 0 rfl) ?_
  refine fh_get hx hb hG C_MD iG_MD hown hK hP km_11 18 (by decide) gm691 rfl d_MD_copyRequest_30 ?_
  refine lv_iload_n hx hb d_MD_copyRequest_33 rfl (lv_at hl 1 rfl) ?_
  refine fh_ialK hx hb hK hP 0 ka_12 rfl (k := i) (by omega) (by decide) d_MD_copyRequest_34 ?_
  refine fh_iasK hx hb hK hP hS 0 ka_12 rfl (k := j) (by omega) (by decide) d_MD_copyRequest_35 (fun H locs hP hS => ?_)
  obtain ⟨w_13, ew_14⟩ : ∃ z : fh_H, z = va_up w_8 (ad 18) (some (.inl (fh_cI E, 41, .inl (upd (ar 18) j (ar 18 i))))) := ⟨_, rfl⟩
  rw [← ew_14] at hP
  have m_15 := m_10.setA 18 rfl ew_14
  have km_16 : w_13 md = some (.inr (7, [.int (sc 0), .int (sc 1), .int (sc 2), .int (sc 3), .int (sc 4), .int (sc 5), .int (sc 6), .int (sc 7), .int (sc 8), .ref (ad 9), .int (sc 10), .ref (ad 11), .ref (ad 12), .ref (ad 13), .int (sc 14), .int (sc 15), .ref (ad 16), .ref (ad 17), .ref (ad 18), .ref (ad 19), .ref (ad 20), .int (sc 21), .ref (ad 22), .ref (ad 23), .int (sc 24), .int (sc 25), .int (sc 26), .int (sc 27), .int (sc 28)])) := m_15.1
  have ka_17 : w_13 (ad 19) = some (.inl (fh_cI E, 41, .inl (ar 19))) := m_15.2.1 19 rfl
  refine lv_aload_n hx hb d_MD_copyRequest_36 rfl (lv_at hl 0 rfl) ?_
  refine fh_get hx hb hG C_MD iG_MD hown hK hP km_16 19 (by decide) gm692 rfl d_MD_copyRequest_37 ?_
  refine lv_iload_n hx hb d_MD_copyRequest_40 rfl (lv_at hl 2 rfl) ?_
  refine lv_aload_n hx hb d_MD_copyRequest_41 rfl (lv_at hl 0 rfl) ?_
  refine fh_get hx hb hG C_MD iG_MD hown hK hP km_16 19 (by decide) gm692 rfl d_MD_copyRequest_42 ?_
  refine lv_iload_n hx hb d_MD_copyRequest_45 rfl (lv_at hl 1 rfl) ?_
  refine fh_ialK hx hb hK hP 0 ka_17 rfl (k := i) (by omega) (by decide) d_MD_copyRequest_46 ?_
  refine fh_iasK hx hb hK hP hS 0 ka_17 rfl (k := j) (by omega) (by decide) d_MD_copyRequest_47 (fun H locs hP hS => ?_)
  obtain ⟨w_18, ew_19⟩ : ∃ z : fh_H, z = va_up w_13 (ad 19) (some (.inl (fh_cI E, 41, .inl (upd (ar 19) j (ar 19 i))))) := ⟨_, rfl⟩
  rw [← ew_19] at hP
  have m_20 := m_15.setA 19 rfl ew_19
  have km_21 : w_18 md = some (.inr (7, [.int (sc 0), .int (sc 1), .int (sc 2), .int (sc 3), .int (sc 4), .int (sc 5), .int (sc 6), .int (sc 7), .int (sc 8), .ref (ad 9), .int (sc 10), .ref (ad 11), .ref (ad 12), .ref (ad 13), .int (sc 14), .int (sc 15), .ref (ad 16), .ref (ad 17), .ref (ad 18), .ref (ad 19), .ref (ad 20), .int (sc 21), .ref (ad 22), .ref (ad 23), .int (sc 24), .int (sc 25), .int (sc 26), .int (sc 27), .int (sc 28)])) := m_20.1
  have ka_22 : w_18 (ad 20) = some (.inl (fh_cI E, 41, .inl (ar 20))) := m_20.2.1 20 rfl
  refine lv_aload_n hx hb d_MD_copyRequest_48 rfl (lv_at hl 0 rfl) ?_
  refine fh_get hx hb hG C_MD iG_MD hown hK hP km_21 20 (by decide) gm693 rfl d_MD_copyRequest_49 ?_
  refine lv_iload_n hx hb d_MD_copyRequest_52 rfl (lv_at hl 2 rfl) ?_
  refine lv_aload_n hx hb d_MD_copyRequest_53 rfl (lv_at hl 0 rfl) ?_
  refine fh_get hx hb hG C_MD iG_MD hown hK hP km_21 20 (by decide) gm693 rfl d_MD_copyRequest_54 ?_
  refine lv_iload_n hx hb d_MD_copyRequest_57 rfl (lv_at hl 1 rfl) ?_
  refine fh_ialK hx hb hK hP 0 ka_22 rfl (k := i) (by omega) (by decide) d_MD_copyRequest_58 ?_
  refine fh_iasK hx hb hK hP hS 0 ka_22 rfl (k := j) (by omega) (by decide) d_MD_copyRequest_59 (fun H locs hP hS => ?_)
  obtain ⟨w_23, ew_24⟩ : ∃ z : fh_H, z = va_up w_18 (ad 20) (some (.inl (fh_cI E, 41, .inl (upd (ar 20) j (ar 20 i))))) := ⟨_, rfl⟩
  rw [← ew_24] at hP
  have m_25 := m_20.setA 20 rfl ew_24
  exact fh_vret hx hb hr hlocks (Nat.le_of_ble_eq_true rfl) (Nat.le_of_ble_eq_true rfl) hP hS ⟨rfl, m_25, (((((KM.rfl).trans (KM.upA 16 rfl ew_4)).trans (KM.upA 17 rfl ew_9)).trans (KM.upA 18 rfl ew_14)).trans (KM.upA 19 rfl ew_19)).trans (KM.upA 20 rfl ew_24)⟩ d_MD_copyRequest_60

