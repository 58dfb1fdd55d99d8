/-! THE REFERENCE: how far a request is. -/
def dsR (how off up : Int32) : Int32 := if how = 1 then (if 0 ≤ off then off else -off) else if how = 2 then (if up = 0 then -off else off) else off
set_option maxHeartbeats 400000 in
set_option maxRecDepth 100000 in
theorem c_MD_distance (l : Launch) (E : fh_E) (h : fh_H) (md : Nat) (ad : Nat → Nat) (sc : Nat → Int32) (ar : Nat → Nat → Int32) (hM : MDs E h md ad sc ar) (k : Nat) (hk : k < 41) (how : Int32) (hw : how = 1 ∨ how = 2 ∨ how = 3 ∨ how = 4) : fh_Met l y_MD_distance w_MD_distance ({ frames := 1, cells := 0, slots := 0, locals := 21 }) E [.ref md, .int (nI k), .int how] h (fun r h1 => r = some (.int (dsR how (ar 18 k / 8 - sc 24) (sc 25))) ∧ h1 = h) 0 0 := by
  refine fh_ofW (cc := b_MD_distance) (maxL := 4) (ret := (some .int)) (by decide) rfl (Nat.le_of_ble_eq_true rfl) ?_
  intro p e s m below meth c A ls hx hb hr hml hown hts hlocks hname hnoh hadm hA hK hZ hP hS hl
  have hG : ∀ w ∈ G, w.before _ s = true := fun w hw => hts w (List.mem_cons_of_mem _ hw)
  have hown : s.vm.findClass R_MD = some m.cls := hown
  have hl : lv_has ls 4 [(0, .ref md), (1, .int (nI k)), (2, .int how)] := hl
  have km_1 : h md = some (.inr (7, [.int (sc 0), .int (sc 1), .int (sc 2), .int (sc 3), .int (sc 4), .int (sc 5), .int (sc 6), .int (sc 7), .int (sc 8), .ref (ad 9), .int (sc 10), .ref (ad 11), .ref (ad 12), .ref (ad 13), .int (sc 14), .int (sc 15), .ref (ad 16), .ref (ad 17), .ref (ad 18), .ref (ad 19), .ref (ad 20), .int (sc 21), .ref (ad 22), .ref (ad 23), .int (sc 24), .int (sc 25), .int (sc 26), .int (sc 27), .int (sc 28)])) := hM.1
  refine lv_aload_n hx hb d_MD_distance_0 rfl (lv_at hl 0 rfl) ?_
  refine lv_iload_n hx hb d_MD_distance_1 rfl (lv_at hl 1 rfl) ?_
  refine fh_callV (C := R_MD) (y := y_MD_track) (bytes := b_MD_track) (maxL := 2) (ret := (some .int)) (index := 81) (As := [.int (nI k)]) (rest := []) ⟨hx, hb, hml, hown, hG⟩ (c_MD_track l E h md ad sc ar hM k hk) (cwV 1 hG (gV gm813 gm815 gs_MD_track gm8 gm816) rfl rfl rfl ⟨rfl, hdy_MD_track⟩ ⟨Nat.le_of_ble_eq_true rfl, Nat.le_of_ble_eq_true rfl⟩) C_MD.1 km_1 hK hZ hP hS hA rfl hl.1 rfl (Nat.le_of_ble_eq_true rfl) d_MD_distance_2 ⟨Nat.le_of_ble_eq_true rfl, Nat.le_of_ble_eq_true rfl⟩ (fun r h1 H locs hq9 hP hS => ?_)
  obtain ⟨rfl, e9⟩ := hq9
  rw [e9] at hP
  refine W.eq (g2 := F0 m 5 ls [.int (ar 18 k / 8)]) rfl ?_
  refine lv_aload_n hx hb d_MD_distance_5 rfl (lv_at hl 0 rfl) ?_
  refine fh_get hx hb hG C_MD iG_MD hown hK hP km_1 24 (by decide) gm697 rfl d_MD_distance_6 ?_
  refine lv_isub hx hb d_MD_distance_9 ?_
  refine lv_istore_n (lv' := [(3, .int (((ar 18 k / 8)) - ((sc 24)))), (0, .ref md), (1, .int (nI k)), (2, .int how)]) hx hb d_MD_distance_10 rfl hl (by decide) rfl (fun ls hl => ?_)
  refine lv_iload_n hx hb d_MD_distance_11 rfl (lv_at hl 3 rfl) ?_
  rcases hw with rfl | rfl | rfl | rfl
  · refine lv_lookup (off := 28) (tgt := 40) hx hb d_MD_distance_12 (by decide) (by decide) (by decide) ?_
    refine lv_iload_n hx hb d_MD_distance_40 rfl (lv_at hl 0 rfl) ?_
    refine lv_if_ge (tgt := 49) hx hb d_MD_distance_41 (by decide) (fun c_2 => ?_) (fun c_2 => ?_)
    · skip
      refine lv_iload_n hx hb d_MD_distance_49 rfl (lv_at hl 0 rfl) ?_
      exact fh_iret hx hb hr hlocks (Nat.le_of_ble_eq_true rfl) (Nat.le_of_ble_eq_true rfl) hP hS ⟨by unfold dsR; rw [if_pos rfl, if_pos c_2], rfl⟩ d_MD_distance_50
    · skip
      refine lv_iload_n hx hb d_MD_distance_44 rfl (lv_at hl 0 rfl) ?_
      refine lv_ineg hx hb d_MD_distance_45 ?_
      refine lv_goto (tgt := 50) hx hb d_MD_distance_46 (by decide) ?_
      exact fh_iret hx hb hr hlocks (Nat.le_of_ble_eq_true rfl) (Nat.le_of_ble_eq_true rfl) hP hS ⟨by unfold dsR; rw [if_pos rfl, if_neg c_2], rfl⟩ d_MD_distance_50
  · refine lv_lookup (off := 39) (tgt := 51) hx hb d_MD_distance_12 (by decide) (by decide) (by decide) ?_
    refine lv_aload_n hx hb d_MD_distance_51 rfl (lv_at hl 1 rfl) ?_
    refine fh_get hx hb hG C_MD iG_MD hown hK hP km_1 25 (by decide) gm698 rfl d_MD_distance_52 ?_
    refine lv_if_eq (tgt := 62) hx hb d_MD_distance_55 (by decide) (fun c_3 => ?_) (fun c_3 => ?_)
    · skip
      refine lv_iload_n hx hb d_MD_distance_62 rfl (lv_at hl 0 rfl) ?_
      refine lv_ineg hx hb d_MD_distance_63 ?_
      exact fh_iret hx hb hr hlocks (Nat.le_of_ble_eq_true rfl) (Nat.le_of_ble_eq_true rfl) hP hS ⟨by unfold dsR; rw [if_neg (by decide), if_pos rfl, if_pos c_3], rfl⟩ d_MD_distance_64
    · skip
      refine lv_iload_n hx hb d_MD_distance_58 rfl (lv_at hl 0 rfl) ?_
      refine lv_goto (tgt := 64) hx hb d_MD_distance_59 (by decide) ?_
      exact fh_iret hx hb hr hlocks (Nat.le_of_ble_eq_true rfl) (Nat.le_of_ble_eq_true rfl) hP hS ⟨by unfold dsR; rw [if_neg (by decide), if_pos rfl, if_neg c_3], rfl⟩ d_MD_distance_64
  · refine lv_lookup (off := 53) (tgt := 65) hx hb d_MD_distance_12 (by decide) (by decide) (by decide) ?_
    refine lv_iload_n hx hb d_MD_distance_65 rfl (lv_at hl 0 rfl) ?_
    exact fh_iret hx hb hr hlocks (Nat.le_of_ble_eq_true rfl) (Nat.le_of_ble_eq_true rfl) hP hS ⟨by unfold dsR; rw [if_neg (by decide), if_neg (by decide)], rfl⟩ d_MD_distance_66
  · refine lv_lookup (off := 53) (tgt := 65) hx hb d_MD_distance_12 (by decide) (by decide) (by decide) ?_
    refine lv_iload_n hx hb d_MD_distance_65 rfl (lv_at hl 0 rfl) ?_
    exact fh_iret hx hb hr hlocks (Nat.le_of_ble_eq_true rfl) (Nat.le_of_ble_eq_true rfl) hP hS ⟨by unfold dsR; rw [if_neg (by decide), if_neg (by decide)], rfl⟩ d_MD_distance_66

