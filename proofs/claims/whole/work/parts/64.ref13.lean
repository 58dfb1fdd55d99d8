/-! THE REFERENCE: what it begins. -/
set_option maxHeartbeats 800000 in
set_option maxRecDepth 100000 in
theorem c_MD_chosen (l : Launch) (E : fh_E) (h : fh_H) (md : Nat) (ad : Nat → Nat) (sc : Nat → Int32) (ar : Nat → Nat → Int32) (hM : MDs E h md ad sc ar) (S : mS) (t : Nat) (hR : RM sc ar S) (hI : Inv S t) (hne : S.q ≠ []) : fh_Met l y_MD_chosen w_MD_chosen ({ frames := 3, cells := 0, slots := 0, locals := 68 }) E [.ref md] h (fun r h1 => ∃ k r9, r = some (.int (nI k)) ∧ (chs S.q S.tm S.hd S.up S.wy).1 = some k ∧ S.q[k]? = some r9 ∧ MDs E h1 md ad (upd sc 25 (chs S.q S.tm S.hd S.up S.wy).2) ar ∧ KM h h1 md ad) 0 0 := by
  refine fh_ofW (cc := b_MD_chosen) (maxL := 2) (ret := (some .int)) (by decide) rfl (Nat.le_of_ble_eq_true rfl) ?_
  intro p e s m below meth c A ls hx hb hr hml hown hts hlocks hname hnoh hadm hA hK hZ hP hS hl
  have hG : ∀ w ∈ G, w.before _ s = true := fun w hw => hts w (List.mem_cons_of_mem _ hw)
  have hown : s.vm.findClass R_MD = some m.cls := hown
  have hl : lv_has ls 2 [(0, .ref md)] := hl
  have hR0 := hR
  obtain ⟨⟨a1, a2, a3, a4, a5, a6, a7, a8⟩, a9, ⟨a10, a11, a12⟩, a14, ⟨a15, a16⟩, ⟨a21, a22⟩, ⟨a24, a25⟩, a26, a27, a28⟩ := hR
  have i1 := hI.bs10
  have i2 := hI.q40
  have i3 := hI.ca6
  obtain ⟨k9, r9, hk9, hr9⟩ := chs_ok (tm := S.tm) (wy := S.wy) hne hI.qok hI.hd32 hI.up01
  obtain ⟨r0, t0, eq⟩ : ∃ r0 t0, S.q = r0 :: t0 := by
    cases z : S.q with
    | nil => exact absurd z hne
    | cons a b => exact ⟨a, b, rfl⟩
  have hq0 : S.q[0]? = some r0 := by rw [eq]; rfl
  obtain ⟨g1, g2, g3, g4, g5⟩ := a16 0 r0 hq0
  have km_1 : h md = some (.inr (7, [.int (sc 0), .int (sc 1), .int (sc 2), .int (sc 3), .int (sc 4), .int (sc 5), .int (sc 6), .int (sc 7), .int (sc 8), .ref (ad 9), .int (sc 10), .ref (ad 11), .ref (ad 12), .ref (ad 13), .int (sc 14), .int (sc 15), .ref (ad 16), .ref (ad 17), .ref (ad 18), .ref (ad 19), .ref (ad 20), .int (sc 21), .ref (ad 22), .ref (ad 23), .int (sc 24), .int (sc 25), .int (sc 26), .int (sc 27), .int (sc 28)])) := hM.1
  have ka_2 : h (ad 17) = some (.inl (fh_cI E, 41, .inl (ar 17))) := hM.2.1 17 rfl
  have ka_3 : h (ad 20) = some (.inl (fh_cI E, 41, .inl (ar 20))) := hM.2.1 20 rfl
  refine lv_aload_n hx hb d_MD_chosen_0 rfl (lv_at hl 0 rfl) ?_
  refine fh_get hx hb hG C_MD iG_MD hown hK hP km_1 17 (by decide) gm690 rfl d_MD_chosen_1 ?_
  refine lv_iconst (v := 0) hx hb d_MD_chosen_4 (by decide) ?_
  refine W.eq (g2 := F0 m 5 ls [.int (nI 0), .ref (ad 17)]) (rfl) ?_
  refine fh_ialK hx hb hK hP 0 ka_2 rfl (k := 0) (by omega) (by decide) d_MD_chosen_5 ?_
  rw [g2]
  refine lv_iconst (v := 2) hx hb d_MD_chosen_6 (by decide) ?_
  refine lv_icmp_eq (tgt := 41) hx hb d_MD_chosen_7 (by decide) (fun c_4 => ?_) (fun c_4 => ?_)
  · skip
    refine lv_iconst (v := 0) hx hb d_MD_chosen_41 (by decide) ?_
    have eC : chs S.q S.tm S.hd S.up S.wy = (some 0, S.up) := by rw [eq]; exact chs_0 (Or.inl c_4)
    exact fh_iret hx hb hr hlocks (Nat.le_of_ble_eq_true rfl) (Nat.le_of_ble_eq_true rfl) hP hS ⟨0, r0, rfl, by rw [eC], hq0, by rw [eC]; show MDs E h md ad (upd sc 25 S.up) ar; rw [upd_id a25]; exact hM, KM.rfl⟩ d_MD_chosen_42
  · skip
    refine lv_aload_n hx hb d_MD_chosen_10 rfl (lv_at hl 0 rfl) ?_
    refine fh_get hx hb hG C_MD iG_MD hown hK hP km_1 8 (by decide) gm681 rfl d_MD_chosen_11 ?_
    rw [a8]
    refine lv_if_eq (tgt := 41) hx hb d_MD_chosen_14 (by decide) (fun c_5 => ?_) (fun c_5 => ?_)
    · skip
      refine lv_iconst (v := 0) hx hb d_MD_chosen_41 (by decide) ?_
      have eC : chs S.q S.tm S.hd S.up S.wy = (some 0, S.up) := by rw [eq]; exact chs_0 (Or.inr (Or.inl c_5))
      exact fh_iret hx hb hr hlocks (Nat.le_of_ble_eq_true rfl) (Nat.le_of_ble_eq_true rfl) hP hS ⟨0, r0, rfl, by rw [eC], hq0, by rw [eC]; show MDs E h md ad (upd sc 25 S.up) ar; rw [upd_id a25]; exact hM, KM.rfl⟩ d_MD_chosen_42
    · skip
      refine lv_aload_n hx hb d_MD_chosen_17 rfl (lv_at hl 0 rfl) ?_
      refine fh_get hx hb hG C_MD iG_MD hown hK hP km_1 8 (by decide) gm681 rfl d_MD_chosen_18 ?_
      rw [a8]
      refine lv_iconst (v := 4) hx hb d_MD_chosen_21 (by decide) ?_
      refine lv_icmp_ne (tgt := 43) hx hb d_MD_chosen_22 (by decide) (fun c_6 => ?_) (fun c_6 => ?_)
      · skip
        have nC : ¬ (r0.2.1 = 2 ∨ S.wy = 0 ∨ (S.wy = 4 ∧ ¬ S.tm - r0.2.2.2.1 < 100)) := fun z => z.elim c_4 (fun z => z.elim c_5 (fun z => c_6 z.1))
        have hw : S.wy = 1 ∨ S.wy = 2 ∨ S.wy = 3 ∨ S.wy = 4 := by
          obtain ⟨w, hw, ew⟩ := hI.wy5
          rw [ew]
          have : w ≠ 0 := fun z => nC (Or.inr (Or.inl (by rw [ew, z]; rfl)))
          rcases (show w = 1 ∨ w = 2 ∨ w = 3 ∨ w = 4 by omega) with rfl | rfl | rfl | rfl
          · exact Or.inl rfl
          · exact Or.inr (Or.inl rfl)
          · exact Or.inr (Or.inr (Or.inl rfl))
          · exact Or.inr (Or.inr (Or.inr rfl))
        refine lv_aload_n hx hb d_MD_chosen_43 rfl (lv_at hl 0 rfl) ?_
        refine lv_aload_n hx hb d_MD_chosen_44 rfl (lv_at hl 0 rfl) ?_
        refine fh_get hx hb hG C_MD iG_MD hown hK hP km_1 8 (by decide) gm681 rfl d_MD_chosen_45 ?_
        rw [a8]
        refine fh_callV (C := R_MD) (y := y_MD_nearest) (bytes := b_MD_nearest) (maxL := 5) (ret := (some .int)) (index := 96) (As := [.int (S.wy)]) (rest := []) ⟨hx, hb, hml, hown, hG⟩ (c_MD_nearest l E h md ad sc ar hM S.wy hw S.q a16 (by omega) a15) (cwV 1 hG (gV gm801 gm803 gs_MD_nearest gm8 gm804) rfl rfl rfl ⟨rfl, hdy_MD_nearest⟩ ⟨Nat.le_of_ble_eq_true rfl, Nat.le_of_ble_eq_true rfl⟩) C_MD.1 km_1 hK hZ hP hS hA rfl hl.1 rfl (Nat.le_of_ble_eq_true rfl) d_MD_chosen_48 ⟨Nat.le_of_ble_eq_true rfl, Nat.le_of_ble_eq_true rfl⟩ (fun r h1 H locs hq9 hP hS => ?_)
        obtain ⟨rfl, e9⟩ := hq9
        rw [e9] at hP
        refine W.eq (g2 := F0 m 51 ls [.int (pl (nearN S.q (dsF S.wy (sc 24) (sc 25)) S.q.length))]) rfl ?_
        refine W.eq (g2 := F0 m 51 ls [.int (pl (nearN S.q (fA (sideP S.wy S.up) S.hd) S.q.length))]) (by rw [dsF_side hw, a24, a25]) ?_
        refine lv_istore_n (lv' := [(1, .int (pl (nearN S.q (fA (sideP S.wy S.up) S.hd) S.q.length))), (0, .ref md)]) hx hb d_MD_chosen_51 rfl hl (by decide) rfl (fun ls hl => ?_)
        cases hn : nearN S.q (fA (sideP S.wy S.up) S.hd) S.q.length with
        | some k =>
          rw [hn] at hl
          have hl : lv_has ls 2 [(1, .int (nI k)), (0, .ref md)] := hl
          refine lv_iload_n hx hb d_MD_chosen_52 rfl (lv_at hl 0 rfl) ?_
          have hkl := (nearN_lt _ _ _ _ hn).2
          obtain ⟨r8, hr8⟩ := mp_get (xs := S.q) hkl
          have eC : chs S.q S.tm S.hd S.up S.wy = (some k, S.up) := by rw [eq]; exact chs_1 nC (by rw [← eq]; exact hn)
          refine lv_if_ge (tgt := 86) hx hb d_MD_chosen_53 (by decide) (fun c_7 => ?_) (fun c_7 => ?_)
          · skip
            refine lv_iload_n hx hb d_MD_chosen_86 rfl (lv_at hl 0 rfl) ?_
            refine lv_if_ge (tgt := 97) hx hb d_MD_chosen_87 (by decide) (fun c_8 => ?_) (fun c_8 => ?_)
            · skip
              refine lv_iload_n hx hb d_MD_chosen_97 rfl (lv_at hl 0 rfl) ?_
              exact fh_iret hx hb hr hlocks (Nat.le_of_ble_eq_true rfl) (Nat.le_of_ble_eq_true rfl) hP hS ⟨k, r8, rfl, by rw [eC], hr8, by rw [eC]; show MDs E h md ad (upd sc 25 S.up) ar; rw [upd_id a25]; exact hM, KM.rfl⟩ d_MD_chosen_98
            · skip
              exact absurd (nI_pos' (by omega)) c_8
          · skip
            exact absurd (nI_pos' (by omega)) c_7
        | none =>
          rw [hn] at hl
          have hl : lv_has ls 2 [(1, .int (-1)), (0, .ref md)] := hl
          refine lv_iload_n hx hb d_MD_chosen_52 rfl (lv_at hl 0 rfl) ?_
          refine lv_if_ge (tgt := 86) hx hb d_MD_chosen_53 (by decide) (fun c_9 => ?_) (fun c_9 => ?_)
          · skip
            exact absurd c_9 (by decide)
          · skip
            refine lv_aload_n hx hb d_MD_chosen_56 rfl (lv_at hl 1 rfl) ?_
            refine fh_get hx hb hG C_MD iG_MD hown hK hP km_1 8 (by decide) gm681 rfl d_MD_chosen_57 ?_
            rw [a8]
            refine lv_iconst (v := 2) hx hb d_MD_chosen_60 (by decide) ?_
            refine lv_icmp_ne (tgt := 86) hx hb d_MD_chosen_61 (by decide) (fun c_10 => ?_) (fun c_10 => ?_)
            · skip
              have eC : chs S.q S.tm S.hd S.up S.wy = (nearN S.q (fA 3 S.hd) S.q.length, S.up) := by
                have z := chs_3 (t := t0) nC (by rw [← eq]; exact hn) c_10
                rw [← eq] at z; exact z
              have e8 : nearN S.q (fA 3 S.hd) S.q.length = some (lowN S.q (ar 18) S.q.length) := low_near hq0 (fun z => nC (Or.inl z)) hI.qok (fun k r hk => (a16 k r hk).2.2.1) _ (by rw [eq]; exact Nat.succ_pos _) (Nat.le_refl _)
              have hkl := (nearN_lt _ _ _ _ e8).2
              obtain ⟨r8, hr8⟩ := mp_get (xs := S.q) hkl
              refine lv_iload_n hx hb d_MD_chosen_86 rfl (lv_at hl 0 rfl) ?_
              refine lv_if_ge (tgt := 97) hx hb d_MD_chosen_87 (by decide) (fun c_11 => ?_) (fun c_11 => ?_)
              · skip
                exact absurd c_11 (by decide)
              · skip
                refine lv_aload_n hx hb d_MD_chosen_90 rfl (lv_at hl 1 rfl) ?_
                refine fh_callV (C := R_MD) (y := y_MD_lowest) (bytes := b_MD_lowest) (maxL := 3) (ret := (some .int)) (index := 99) (As := []) (rest := []) ⟨hx, hb, hml, hown, hG⟩ (c_MD_lowest l E h md ad sc ar hM S.q a16 (by omega) a15) (cwV 0 hG (gV gm817 gm819 gs_MD_lowest gm8 gm820) rfl rfl rfl ⟨rfl, hdy_MD_lowest⟩ ⟨Nat.le_of_ble_eq_true rfl, Nat.le_of_ble_eq_true rfl⟩) C_MD.1 km_1 hK hZ hP hS hA rfl hl.1 rfl (Nat.le_of_ble_eq_true rfl) d_MD_chosen_91 ⟨Nat.le_of_ble_eq_true rfl, Nat.le_of_ble_eq_true rfl⟩ (fun r h1 H locs hq9 hP hS => ?_)
                obtain ⟨rfl, e9⟩ := hq9
                rw [e9] at hP
                refine W.eq (g2 := F0 m 94 ls [.int (nI (lowN S.q (ar 18) S.q.length))]) rfl ?_
                refine lv_goto (tgt := 98) hx hb d_MD_chosen_94 (by decide) ?_
                exact fh_iret hx hb hr hlocks (Nat.le_of_ble_eq_true rfl) (Nat.le_of_ble_eq_true rfl) hP hS ⟨lowN S.q (ar 18) S.q.length, r8, rfl, by rw [eC]; exact e8, hr8, by rw [eC]; show MDs E h md ad (upd sc 25 S.up) ar; rw [upd_id a25]; exact hM, KM.rfl⟩ d_MD_chosen_98
            · skip
              refine lv_aload_n hx hb d_MD_chosen_64 rfl (lv_at hl 1 rfl) ?_
              refine lv_aload_n hx hb d_MD_chosen_65 rfl (lv_at hl 1 rfl) ?_
              refine fh_get hx hb hG C_MD iG_MD hown hK hP km_1 25 (by decide) gm698 rfl d_MD_chosen_66 ?_
              rw [a25]
              refine lv_if_ne (tgt := 76) hx hb d_MD_chosen_69 (by decide) (fun c_12 => ?_) (fun c_12 => ?_)
              · skip
                refine lv_iconst (v := 0) hx hb d_MD_chosen_76 (by decide) ?_
                refine fh_put hx hb hG C_MD iG_MD hown hK hP hS km_1 25 (by decide) gm698 rfl (v := .int 0) rfl rfl (Nat.le_of_ble_eq_true rfl) d_MD_chosen_77 (fun H locs hP hS => ?_)
                obtain ⟨h_13, eh_14⟩ : ∃ z : fh_H, z = va_up h md (some (.inr (7, [.int (sc 0), .int (sc 1), .int (sc 2), .int (sc 3), .int (sc 4), .int (sc 5), .int (sc 6), .int (sc 7), .int (sc 8), .ref (ad 9), .int (sc 10), .ref (ad 11), .ref (ad 12), .ref (ad 13), .int (sc 14), .int (sc 15), .ref (ad 16), .ref (ad 17), .ref (ad 18), .ref (ad 19), .ref (ad 20), .int (sc 21), .ref (ad 22), .ref (ad 23), .int (sc 24), .int 0, .int (sc 26), .int (sc 27), .int (sc 28)]))) := ⟨_, rfl⟩
                have hP : fh_P E.1 vwCl A h_13 H := by rw [eh_14]; exact hP
                obtain ⟨sc_15, es_16⟩ : ∃ z : Nat → Int32, z = upd sc 25 (0) := ⟨_, rfl⟩
                have m_17 : MDs E h_13 md ad sc_15 ar := by rw [es_16]; exact hM.setS (by rw [eh_14]; rfl)
                have K_18 : KM h h_13 md ad := (KM.rfl).trans (KM.upS eh_14)
                have km_19 : h_13 md = some (.inr (7, [.int (sc_15 0), .int (sc_15 1), .int (sc_15 2), .int (sc_15 3), .int (sc_15 4), .int (sc_15 5), .int (sc_15 6), .int (sc_15 7), .int (sc_15 8), .ref (ad 9), .int (sc_15 10), .ref (ad 11), .ref (ad 12), .ref (ad 13), .int (sc_15 14), .int (sc_15 15), .ref (ad 16), .ref (ad 17), .ref (ad 18), .ref (ad 19), .ref (ad 20), .int (sc_15 21), .ref (ad 22), .ref (ad 23), .int (sc_15 24), .int (sc_15 25), .int (sc_15 26), .int (sc_15 27), .int (sc_15 28)])) := m_17.1
                have ka_20 : h_13 (ad 17) = some (.inl (fh_cI E, 41, .inl (ar 17))) := m_17.2.1 17 rfl
                have ka_21 : h_13 (ad 20) = some (.inl (fh_cI E, 41, .inl (ar 20))) := m_17.2.1 20 rfl
                have eC : chs S.q S.tm S.hd S.up S.wy = (nearN S.q (fA (sideP S.wy 0) S.hd) S.q.length, 0) := by
                  have z := chs_2 (t := t0) nC (by rw [← eq]; exact hn) c_10
                  rw [← eq, if_neg c_12] at z; exact z
                have e8 : nearN S.q (dsF 2 (sc_15 24) (sc_15 25)) S.q.length = some k9 := by
                  rw [show sc_15 24 = S.hd by rw [es_16, upd_ne (by decide)]; exact a24, show sc_15 25 = 0 by rw [es_16, upd_eq], dsF_side (Or.inr (Or.inl rfl))]
                  rw [eC, c_10] at hk9; exact hk9
                refine lv_aload_n hx hb d_MD_chosen_80 rfl (lv_at hl 1 rfl) ?_
                refine lv_iconst (v := 2) hx hb d_MD_chosen_81 (by decide) ?_
                refine fh_callV (C := R_MD) (y := y_MD_nearest) (bytes := b_MD_nearest) (maxL := 5) (ret := (some .int)) (index := 96) (As := [.int 2]) (rest := []) ⟨hx, hb, hml, hown, hG⟩ (c_MD_nearest l E h_13 md ad sc_15 ar m_17 2 (Or.inr (Or.inl rfl)) S.q a16 (by omega) (by rw [es_16, upd_ne (by decide)]; exact a15)) (cwV 1 hG (gV gm801 gm803 gs_MD_nearest gm8 gm804) rfl rfl rfl ⟨rfl, hdy_MD_nearest⟩ ⟨Nat.le_of_ble_eq_true rfl, Nat.le_of_ble_eq_true rfl⟩) C_MD.1 km_19 hK hZ hP hS hA rfl hl.1 rfl (Nat.le_of_ble_eq_true rfl) d_MD_chosen_82 ⟨Nat.le_of_ble_eq_true rfl, Nat.le_of_ble_eq_true rfl⟩ (fun r h1 H locs hq9 hP hS => ?_)
                obtain ⟨rfl, e9⟩ := hq9
                rw [e9] at hP
                refine W.eq (g2 := F0 m 85 ls [.int (pl (nearN S.q (dsF 2 (sc_15 24) (sc_15 25)) S.q.length))]) rfl ?_
                refine W.eq (g2 := F0 m 85 ls [.int (nI k9)]) (by rw [e8]; rfl) ?_
                refine lv_istore_n (lv' := [(1, .int (nI k9)), (0, .ref md)]) hx hb d_MD_chosen_85 rfl hl (by decide) rfl (fun ls hl => ?_)
                refine lv_iload_n hx hb d_MD_chosen_86 rfl (lv_at hl 0 rfl) ?_
                have hkl := (List.getElem?_eq_some_iff.mp hr9).1
                refine lv_if_ge (tgt := 97) hx hb d_MD_chosen_87 (by decide) (fun c_22 => ?_) (fun c_22 => ?_)
                · skip
                  refine lv_iload_n hx hb d_MD_chosen_97 rfl (lv_at hl 0 rfl) ?_
                  exact fh_iret hx hb hr hlocks (Nat.le_of_ble_eq_true rfl) (Nat.le_of_ble_eq_true rfl) hP hS ⟨k9, r9, rfl, hk9, hr9, by rw [eC]; show MDs E h_13 md ad (upd sc 25 0) ar; rw [← es_16]; exact m_17, K_18⟩ d_MD_chosen_98
                · skip
                  exact absurd (nI_pos' (by omega)) c_22
              · skip
                refine lv_iconst (v := 1) hx hb d_MD_chosen_72 (by decide) ?_
                refine lv_goto (tgt := 77) hx hb d_MD_chosen_73 (by decide) ?_
                refine fh_put hx hb hG C_MD iG_MD hown hK hP hS km_1 25 (by decide) gm698 rfl (v := .int 1) rfl rfl (Nat.le_of_ble_eq_true rfl) d_MD_chosen_77 (fun H locs hP hS => ?_)
                obtain ⟨h_23, eh_24⟩ : ∃ z : fh_H, z = va_up h md (some (.inr (7, [.int (sc 0), .int (sc 1), .int (sc 2), .int (sc 3), .int (sc 4), .int (sc 5), .int (sc 6), .int (sc 7), .int (sc 8), .ref (ad 9), .int (sc 10), .ref (ad 11), .ref (ad 12), .ref (ad 13), .int (sc 14), .int (sc 15), .ref (ad 16), .ref (ad 17), .ref (ad 18), .ref (ad 19), .ref (ad 20), .int (sc 21), .ref (ad 22), .ref (ad 23), .int (sc 24), .int 1, .int (sc 26), .int (sc 27), .int (sc 28)]))) := ⟨_, rfl⟩
                have hP : fh_P E.1 vwCl A h_23 H := by rw [eh_24]; exact hP
                obtain ⟨sc_25, es_26⟩ : ∃ z : Nat → Int32, z = upd sc 25 (1) := ⟨_, rfl⟩
                have m_27 : MDs E h_23 md ad sc_25 ar := by rw [es_26]; exact hM.setS (by rw [eh_24]; rfl)
                have K_28 : KM h h_23 md ad := (KM.rfl).trans (KM.upS eh_24)
                have km_29 : h_23 md = some (.inr (7, [.int (sc_25 0), .int (sc_25 1), .int (sc_25 2), .int (sc_25 3), .int (sc_25 4), .int (sc_25 5), .int (sc_25 6), .int (sc_25 7), .int (sc_25 8), .ref (ad 9), .int (sc_25 10), .ref (ad 11), .ref (ad 12), .ref (ad 13), .int (sc_25 14), .int (sc_25 15), .ref (ad 16), .ref (ad 17), .ref (ad 18), .ref (ad 19), .ref (ad 20), .int (sc_25 21), .ref (ad 22), .ref (ad 23), .int (sc_25 24), .int (sc_25 25), .int (sc_25 26), .int (sc_25 27), .int (sc_25 28)])) := m_27.1
                have ka_30 : h_23 (ad 17) = some (.inl (fh_cI E, 41, .inl (ar 17))) := m_27.2.1 17 rfl
                have ka_31 : h_23 (ad 20) = some (.inl (fh_cI E, 41, .inl (ar 20))) := m_27.2.1 20 rfl
                have eC : chs S.q S.tm S.hd S.up S.wy = (nearN S.q (fA (sideP S.wy 1) S.hd) S.q.length, 1) := by
                  have z := chs_2 (t := t0) nC (by rw [← eq]; exact hn) c_10
                  rw [← eq, if_pos c_12] at z; exact z
                have e8 : nearN S.q (dsF 2 (sc_25 24) (sc_25 25)) S.q.length = some k9 := by
                  rw [show sc_25 24 = S.hd by rw [es_26, upd_ne (by decide)]; exact a24, show sc_25 25 = 1 by rw [es_26, upd_eq], dsF_side (Or.inr (Or.inl rfl))]
                  rw [eC, c_10] at hk9; exact hk9
                refine lv_aload_n hx hb d_MD_chosen_80 rfl (lv_at hl 1 rfl) ?_
                refine lv_iconst (v := 2) hx hb d_MD_chosen_81 (by decide) ?_
                refine fh_callV (C := R_MD) (y := y_MD_nearest) (bytes := b_MD_nearest) (maxL := 5) (ret := (some .int)) (index := 96) (As := [.int 2]) (rest := []) ⟨hx, hb, hml, hown, hG⟩ (c_MD_nearest l E h_23 md ad sc_25 ar m_27 2 (Or.inr (Or.inl rfl)) S.q a16 (by omega) (by rw [es_26, upd_ne (by decide)]; exact a15)) (cwV 1 hG (gV gm801 gm803 gs_MD_nearest gm8 gm804) rfl rfl rfl ⟨rfl, hdy_MD_nearest⟩ ⟨Nat.le_of_ble_eq_true rfl, Nat.le_of_ble_eq_true rfl⟩) C_MD.1 km_29 hK hZ hP hS hA rfl hl.1 rfl (Nat.le_of_ble_eq_true rfl) d_MD_chosen_82 ⟨Nat.le_of_ble_eq_true rfl, Nat.le_of_ble_eq_true rfl⟩ (fun r h1 H locs hq9 hP hS => ?_)
                obtain ⟨rfl, e9⟩ := hq9
                rw [e9] at hP
                refine W.eq (g2 := F0 m 85 ls [.int (pl (nearN S.q (dsF 2 (sc_25 24) (sc_25 25)) S.q.length))]) rfl ?_
                refine W.eq (g2 := F0 m 85 ls [.int (nI k9)]) (by rw [e8]; rfl) ?_
                refine lv_istore_n (lv' := [(1, .int (nI k9)), (0, .ref md)]) hx hb d_MD_chosen_85 rfl hl (by decide) rfl (fun ls hl => ?_)
                refine lv_iload_n hx hb d_MD_chosen_86 rfl (lv_at hl 0 rfl) ?_
                have hkl := (List.getElem?_eq_some_iff.mp hr9).1
                refine lv_if_ge (tgt := 97) hx hb d_MD_chosen_87 (by decide) (fun c_32 => ?_) (fun c_32 => ?_)
                · skip
                  refine lv_iload_n hx hb d_MD_chosen_97 rfl (lv_at hl 0 rfl) ?_
                  exact fh_iret hx hb hr hlocks (Nat.le_of_ble_eq_true rfl) (Nat.le_of_ble_eq_true rfl) hP hS ⟨k9, r9, rfl, hk9, hr9, by rw [eC]; show MDs E h_23 md ad (upd sc 25 1) ar; rw [← es_26]; exact m_27, K_28⟩ d_MD_chosen_98
                · skip
                  exact absurd (nI_pos' (by omega)) c_32
      · skip
        refine lv_aload_n hx hb d_MD_chosen_25 rfl (lv_at hl 0 rfl) ?_
        refine fh_get hx hb hG C_MD iG_MD hown hK hP km_1 1 (by decide) gm674 rfl d_MD_chosen_26 ?_
        rw [a1]
        refine lv_aload_n hx hb d_MD_chosen_29 rfl (lv_at hl 0 rfl) ?_
        refine fh_get hx hb hG C_MD iG_MD hown hK hP km_1 20 (by decide) gm693 rfl d_MD_chosen_30 ?_
        refine lv_iconst (v := 0) hx hb d_MD_chosen_33 (by decide) ?_
        refine W.eq (g2 := F0 m 34 ls [.int (nI 0), .ref (ad 20), .int (S.tm)]) (rfl) ?_
        refine fh_ialK hx hb hK hP 0 ka_3 rfl (k := 0) (by omega) (by decide) d_MD_chosen_34 ?_
        rw [g4]
        refine lv_isub hx hb d_MD_chosen_35 ?_
        refine lv_bipush (v := 100) hx hb d_MD_chosen_36 (by decide) ?_
        refine lv_icmp_lt (tgt := 43) hx hb d_MD_chosen_38 (by decide) (fun c_33 => ?_) (fun c_33 => ?_)
        · skip
          have nC : ¬ (r0.2.1 = 2 ∨ S.wy = 0 ∨ (S.wy = 4 ∧ ¬ S.tm - r0.2.2.2.1 < 100)) := fun z => z.elim c_4 (fun z => z.elim c_5 (fun z => z.2 c_33))
          have hw : S.wy = 1 ∨ S.wy = 2 ∨ S.wy = 3 ∨ S.wy = 4 := by
            obtain ⟨w, hw, ew⟩ := hI.wy5
            rw [ew]
            have : w ≠ 0 := fun z => nC (Or.inr (Or.inl (by rw [ew, z]; rfl)))
            rcases (show w = 1 ∨ w = 2 ∨ w = 3 ∨ w = 4 by omega) with rfl | rfl | rfl | rfl
            · exact Or.inl rfl
            · exact Or.inr (Or.inl rfl)
            · exact Or.inr (Or.inr (Or.inl rfl))
            · exact Or.inr (Or.inr (Or.inr rfl))
          refine lv_aload_n hx hb d_MD_chosen_43 rfl (lv_at hl 0 rfl) ?_
          refine lv_aload_n hx hb d_MD_chosen_44 rfl (lv_at hl 0 rfl) ?_
          refine fh_get hx hb hG C_MD iG_MD hown hK hP km_1 8 (by decide) gm681 rfl d_MD_chosen_45 ?_
          rw [a8]
          refine fh_callV (C := R_MD) (y := y_MD_nearest) (bytes := b_MD_nearest) (maxL := 5) (ret := (some .int)) (index := 96) (As := [.int (S.wy)]) (rest := []) ⟨hx, hb, hml, hown, hG⟩ (c_MD_nearest l E h md ad sc ar hM S.wy hw S.q a16 (by omega) a15) (cwV 1 hG (gV gm801 gm803 gs_MD_nearest gm8 gm804) rfl rfl rfl ⟨rfl, hdy_MD_nearest⟩ ⟨Nat.le_of_ble_eq_true rfl, Nat.le_of_ble_eq_true rfl⟩) C_MD.1 km_1 hK hZ hP hS hA rfl hl.1 rfl (Nat.le_of_ble_eq_true rfl) d_MD_chosen_48 ⟨Nat.le_of_ble_eq_true rfl, Nat.le_of_ble_eq_true rfl⟩ (fun r h1 H locs hq9 hP hS => ?_)
          obtain ⟨rfl, e9⟩ := hq9
          rw [e9] at hP
          refine W.eq (g2 := F0 m 51 ls [.int (pl (nearN S.q (dsF S.wy (sc 24) (sc 25)) S.q.length))]) rfl ?_
          refine W.eq (g2 := F0 m 51 ls [.int (pl (nearN S.q (fA (sideP S.wy S.up) S.hd) S.q.length))]) (by rw [dsF_side hw, a24, a25]) ?_
          refine lv_istore_n (lv' := [(1, .int (pl (nearN S.q (fA (sideP S.wy S.up) S.hd) S.q.length))), (0, .ref md)]) hx hb d_MD_chosen_51 rfl hl (by decide) rfl (fun ls hl => ?_)
          cases hn : nearN S.q (fA (sideP S.wy S.up) S.hd) S.q.length with
          | some k =>
            rw [hn] at hl
            have hl : lv_has ls 2 [(1, .int (nI k)), (0, .ref md)] := hl
            refine lv_iload_n hx hb d_MD_chosen_52 rfl (lv_at hl 0 rfl) ?_
            have hkl := (nearN_lt _ _ _ _ hn).2
            obtain ⟨r8, hr8⟩ := mp_get (xs := S.q) hkl
            have eC : chs S.q S.tm S.hd S.up S.wy = (some k, S.up) := by rw [eq]; exact chs_1 nC (by rw [← eq]; exact hn)
            refine lv_if_ge (tgt := 86) hx hb d_MD_chosen_53 (by decide) (fun c_34 => ?_) (fun c_34 => ?_)
            · skip
              refine lv_iload_n hx hb d_MD_chosen_86 rfl (lv_at hl 0 rfl) ?_
              refine lv_if_ge (tgt := 97) hx hb d_MD_chosen_87 (by decide) (fun c_35 => ?_) (fun c_35 => ?_)
              · skip
                refine lv_iload_n hx hb d_MD_chosen_97 rfl (lv_at hl 0 rfl) ?_
                exact fh_iret hx hb hr hlocks (Nat.le_of_ble_eq_true rfl) (Nat.le_of_ble_eq_true rfl) hP hS ⟨k, r8, rfl, by rw [eC], hr8, by rw [eC]; show MDs E h md ad (upd sc 25 S.up) ar; rw [upd_id a25]; exact hM, KM.rfl⟩ d_MD_chosen_98
              · skip
                exact absurd (nI_pos' (by omega)) c_35
            · skip
              exact absurd (nI_pos' (by omega)) c_34
          | none =>
            rw [hn] at hl
            have hl : lv_has ls 2 [(1, .int (-1)), (0, .ref md)] := hl
            refine lv_iload_n hx hb d_MD_chosen_52 rfl (lv_at hl 0 rfl) ?_
            refine lv_if_ge (tgt := 86) hx hb d_MD_chosen_53 (by decide) (fun c_36 => ?_) (fun c_36 => ?_)
            · skip
              exact absurd c_36 (by decide)
            · skip
              refine lv_aload_n hx hb d_MD_chosen_56 rfl (lv_at hl 1 rfl) ?_
              refine fh_get hx hb hG C_MD iG_MD hown hK hP km_1 8 (by decide) gm681 rfl d_MD_chosen_57 ?_
              rw [a8]
              refine lv_iconst (v := 2) hx hb d_MD_chosen_60 (by decide) ?_
              refine lv_icmp_ne (tgt := 86) hx hb d_MD_chosen_61 (by decide) (fun c_37 => ?_) (fun c_37 => ?_)
              · skip
                have eC : chs S.q S.tm S.hd S.up S.wy = (nearN S.q (fA 3 S.hd) S.q.length, S.up) := by
                  have z := chs_3 (t := t0) nC (by rw [← eq]; exact hn) c_37
                  rw [← eq] at z; exact z
                have e8 : nearN S.q (fA 3 S.hd) S.q.length = some (lowN S.q (ar 18) S.q.length) := low_near hq0 (fun z => nC (Or.inl z)) hI.qok (fun k r hk => (a16 k r hk).2.2.1) _ (by rw [eq]; exact Nat.succ_pos _) (Nat.le_refl _)
                have hkl := (nearN_lt _ _ _ _ e8).2
                obtain ⟨r8, hr8⟩ := mp_get (xs := S.q) hkl
                refine lv_iload_n hx hb d_MD_chosen_86 rfl (lv_at hl 0 rfl) ?_
                refine lv_if_ge (tgt := 97) hx hb d_MD_chosen_87 (by decide) (fun c_38 => ?_) (fun c_38 => ?_)
                · skip
                  exact absurd c_38 (by decide)
                · skip
                  refine lv_aload_n hx hb d_MD_chosen_90 rfl (lv_at hl 1 rfl) ?_
                  refine fh_callV (C := R_MD) (y := y_MD_lowest) (bytes := b_MD_lowest) (maxL := 3) (ret := (some .int)) (index := 99) (As := []) (rest := []) ⟨hx, hb, hml, hown, hG⟩ (c_MD_lowest l E h md ad sc ar hM S.q a16 (by omega) a15) (cwV 0 hG (gV gm817 gm819 gs_MD_lowest gm8 gm820) rfl rfl rfl ⟨rfl, hdy_MD_lowest⟩ ⟨Nat.le_of_ble_eq_true rfl, Nat.le_of_ble_eq_true rfl⟩) C_MD.1 km_1 hK hZ hP hS hA rfl hl.1 rfl (Nat.le_of_ble_eq_true rfl) d_MD_chosen_91 ⟨Nat.le_of_ble_eq_true rfl, Nat.le_of_ble_eq_true rfl⟩ (fun r h1 H locs hq9 hP hS => ?_)
                  obtain ⟨rfl, e9⟩ := hq9
                  rw [e9] at hP
                  refine W.eq (g2 := F0 m 94 ls [.int (nI (lowN S.q (ar 18) S.q.length))]) rfl ?_
                  refine lv_goto (tgt := 98) hx hb d_MD_chosen_94 (by decide) ?_
                  exact fh_iret hx hb hr hlocks (Nat.le_of_ble_eq_true rfl) (Nat.le_of_ble_eq_true rfl) hP hS ⟨lowN S.q (ar 18) S.q.length, r8, rfl, by rw [eC]; exact e8, hr8, by rw [eC]; show MDs E h md ad (upd sc 25 S.up) ar; rw [upd_id a25]; exact hM, KM.rfl⟩ d_MD_chosen_98
              · skip
                refine lv_aload_n hx hb d_MD_chosen_64 rfl (lv_at hl 1 rfl) ?_
                refine lv_aload_n hx hb d_MD_chosen_65 rfl (lv_at hl 1 rfl) ?_
                refine fh_get hx hb hG C_MD iG_MD hown hK hP km_1 25 (by decide) gm698 rfl d_MD_chosen_66 ?_
                rw [a25]
                refine lv_if_ne (tgt := 76) hx hb d_MD_chosen_69 (by decide) (fun c_39 => ?_) (fun c_39 => ?_)
                · skip
                  refine lv_iconst (v := 0) hx hb d_MD_chosen_76 (by decide) ?_
                  refine fh_put hx hb hG C_MD iG_MD hown hK hP hS km_1 25 (by decide) gm698 rfl (v := .int 0) rfl rfl (Nat.le_of_ble_eq_true rfl) d_MD_chosen_77 (fun H locs hP hS => ?_)
                  obtain ⟨h_40, eh_41⟩ : ∃ z : fh_H, z = va_up h md (some (.inr (7, [.int (sc 0), .int (sc 1), .int (sc 2), .int (sc 3), .int (sc 4), .int (sc 5), .int (sc 6), .int (sc 7), .int (sc 8), .ref (ad 9), .int (sc 10), .ref (ad 11), .ref (ad 12), .ref (ad 13), .int (sc 14), .int (sc 15), .ref (ad 16), .ref (ad 17), .ref (ad 18), .ref (ad 19), .ref (ad 20), .int (sc 21), .ref (ad 22), .ref (ad 23), .int (sc 24), .int 0, .int (sc 26), .int (sc 27), .int (sc 28)]))) := ⟨_, rfl⟩
                  have hP : fh_P E.1 vwCl A h_40 H := by rw [eh_41]; exact hP
                  obtain ⟨sc_42, es_43⟩ : ∃ z : Nat → Int32, z = upd sc 25 (0) := ⟨_, rfl⟩
                  have m_44 : MDs E h_40 md ad sc_42 ar := by rw [es_43]; exact hM.setS (by rw [eh_41]; rfl)
                  have K_45 : KM h h_40 md ad := (KM.rfl).trans (KM.upS eh_41)
                  have km_46 : h_40 md = some (.inr (7, [.int (sc_42 0), .int (sc_42 1), .int (sc_42 2), .int (sc_42 3), .int (sc_42 4), .int (sc_42 5), .int (sc_42 6), .int (sc_42 7), .int (sc_42 8), .ref (ad 9), .int (sc_42 10), .ref (ad 11), .ref (ad 12), .ref (ad 13), .int (sc_42 14), .int (sc_42 15), .ref (ad 16), .ref (ad 17), .ref (ad 18), .ref (ad 19), .ref (ad 20), .int (sc_42 21), .ref (ad 22), .ref (ad 23), .int (sc_42 24), .int (sc_42 25), .int (sc_42 26), .int (sc_42 27), .int (sc_42 28)])) := m_44.1
                  have ka_47 : h_40 (ad 17) = some (.inl (fh_cI E, 41, .inl (ar 17))) := m_44.2.1 17 rfl
                  have ka_48 : h_40 (ad 20) = some (.inl (fh_cI E, 41, .inl (ar 20))) := m_44.2.1 20 rfl
                  have eC : chs S.q S.tm S.hd S.up S.wy = (nearN S.q (fA (sideP S.wy 0) S.hd) S.q.length, 0) := by
                    have z := chs_2 (t := t0) nC (by rw [← eq]; exact hn) c_37
                    rw [← eq, if_neg c_39] at z; exact z
                  have e8 : nearN S.q (dsF 2 (sc_42 24) (sc_42 25)) S.q.length = some k9 := by
                    rw [show sc_42 24 = S.hd by rw [es_43, upd_ne (by decide)]; exact a24, show sc_42 25 = 0 by rw [es_43, upd_eq], dsF_side (Or.inr (Or.inl rfl))]
                    rw [eC, c_37] at hk9; exact hk9
                  refine lv_aload_n hx hb d_MD_chosen_80 rfl (lv_at hl 1 rfl) ?_
                  refine lv_iconst (v := 2) hx hb d_MD_chosen_81 (by decide) ?_
                  refine fh_callV (C := R_MD) (y := y_MD_nearest) (bytes := b_MD_nearest) (maxL := 5) (ret := (some .int)) (index := 96) (As := [.int 2]) (rest := []) ⟨hx, hb, hml, hown, hG⟩ (c_MD_nearest l E h_40 md ad sc_42 ar m_44 2 (Or.inr (Or.inl rfl)) S.q a16 (by omega) (by rw [es_43, upd_ne (by decide)]; exact a15)) (cwV 1 hG (gV gm801 gm803 gs_MD_nearest gm8 gm804) rfl rfl rfl ⟨rfl, hdy_MD_nearest⟩ ⟨Nat.le_of_ble_eq_true rfl, Nat.le_of_ble_eq_true rfl⟩) C_MD.1 km_46 hK hZ hP hS hA rfl hl.1 rfl (Nat.le_of_ble_eq_true rfl) d_MD_chosen_82 ⟨Nat.le_of_ble_eq_true rfl, Nat.le_of_ble_eq_true rfl⟩ (fun r h1 H locs hq9 hP hS => ?_)
                  obtain ⟨rfl, e9⟩ := hq9
                  rw [e9] at hP
                  refine W.eq (g2 := F0 m 85 ls [.int (pl (nearN S.q (dsF 2 (sc_42 24) (sc_42 25)) S.q.length))]) rfl ?_
                  refine W.eq (g2 := F0 m 85 ls [.int (nI k9)]) (by rw [e8]; rfl) ?_
                  refine lv_istore_n (lv' := [(1, .int (nI k9)), (0, .ref md)]) hx hb d_MD_chosen_85 rfl hl (by decide) rfl (fun ls hl => ?_)
                  refine lv_iload_n hx hb d_MD_chosen_86 rfl (lv_at hl 0 rfl) ?_
                  have hkl := (List.getElem?_eq_some_iff.mp hr9).1
                  refine lv_if_ge (tgt := 97) hx hb d_MD_chosen_87 (by decide) (fun c_49 => ?_) (fun c_49 => ?_)
                  · skip
                    refine lv_iload_n hx hb d_MD_chosen_97 rfl (lv_at hl 0 rfl) ?_
                    exact fh_iret hx hb hr hlocks (Nat.le_of_ble_eq_true rfl) (Nat.le_of_ble_eq_true rfl) hP hS ⟨k9, r9, rfl, hk9, hr9, by rw [eC]; show MDs E h_40 md ad (upd sc 25 0) ar; rw [← es_43]; exact m_44, K_45⟩ d_MD_chosen_98
                  · skip
                    exact absurd (nI_pos' (by omega)) c_49
                · skip
                  refine lv_iconst (v := 1) hx hb d_MD_chosen_72 (by decide) ?_
                  refine lv_goto (tgt := 77) hx hb d_MD_chosen_73 (by decide) ?_
                  refine fh_put hx hb hG C_MD iG_MD hown hK hP hS km_1 25 (by decide) gm698 rfl (v := .int 1) rfl rfl (Nat.le_of_ble_eq_true rfl) d_MD_chosen_77 (fun H locs hP hS => ?_)
                  obtain ⟨h_50, eh_51⟩ : ∃ z : fh_H, z = va_up h md (some (.inr (7, [.int (sc 0), .int (sc 1), .int (sc 2), .int (sc 3), .int (sc 4), .int (sc 5), .int (sc 6), .int (sc 7), .int (sc 8), .ref (ad 9), .int (sc 10), .ref (ad 11), .ref (ad 12), .ref (ad 13), .int (sc 14), .int (sc 15), .ref (ad 16), .ref (ad 17), .ref (ad 18), .ref (ad 19), .ref (ad 20), .int (sc 21), .ref (ad 22), .ref (ad 23), .int (sc 24), .int 1, .int (sc 26), .int (sc 27), .int (sc 28)]))) := ⟨_, rfl⟩
                  have hP : fh_P E.1 vwCl A h_50 H := by rw [eh_51]; exact hP
                  obtain ⟨sc_52, es_53⟩ : ∃ z : Nat → Int32, z = upd sc 25 (1) := ⟨_, rfl⟩
                  have m_54 : MDs E h_50 md ad sc_52 ar := by rw [es_53]; exact hM.setS (by rw [eh_51]; rfl)
                  have K_55 : KM h h_50 md ad := (KM.rfl).trans (KM.upS eh_51)
                  have km_56 : h_50 md = some (.inr (7, [.int (sc_52 0), .int (sc_52 1), .int (sc_52 2), .int (sc_52 3), .int (sc_52 4), .int (sc_52 5), .int (sc_52 6), .int (sc_52 7), .int (sc_52 8), .ref (ad 9), .int (sc_52 10), .ref (ad 11), .ref (ad 12), .ref (ad 13), .int (sc_52 14), .int (sc_52 15), .ref (ad 16), .ref (ad 17), .ref (ad 18), .ref (ad 19), .ref (ad 20), .int (sc_52 21), .ref (ad 22), .ref (ad 23), .int (sc_52 24), .int (sc_52 25), .int (sc_52 26), .int (sc_52 27), .int (sc_52 28)])) := m_54.1
                  have ka_57 : h_50 (ad 17) = some (.inl (fh_cI E, 41, .inl (ar 17))) := m_54.2.1 17 rfl
                  have ka_58 : h_50 (ad 20) = some (.inl (fh_cI E, 41, .inl (ar 20))) := m_54.2.1 20 rfl
                  have eC : chs S.q S.tm S.hd S.up S.wy = (nearN S.q (fA (sideP S.wy 1) S.hd) S.q.length, 1) := by
                    have z := chs_2 (t := t0) nC (by rw [← eq]; exact hn) c_37
                    rw [← eq, if_pos c_39] at z; exact z
                  have e8 : nearN S.q (dsF 2 (sc_52 24) (sc_52 25)) S.q.length = some k9 := by
                    rw [show sc_52 24 = S.hd by rw [es_53, upd_ne (by decide)]; exact a24, show sc_52 25 = 1 by rw [es_53, upd_eq], dsF_side (Or.inr (Or.inl rfl))]
                    rw [eC, c_37] at hk9; exact hk9
                  refine lv_aload_n hx hb d_MD_chosen_80 rfl (lv_at hl 1 rfl) ?_
                  refine lv_iconst (v := 2) hx hb d_MD_chosen_81 (by decide) ?_
                  refine fh_callV (C := R_MD) (y := y_MD_nearest) (bytes := b_MD_nearest) (maxL := 5) (ret := (some .int)) (index := 96) (As := [.int 2]) (rest := []) ⟨hx, hb, hml, hown, hG⟩ (c_MD_nearest l E h_50 md ad sc_52 ar m_54 2 (Or.inr (Or.inl rfl)) S.q a16 (by omega) (by rw [es_53, upd_ne (by decide)]; exact a15)) (cwV 1 hG (gV gm801 gm803 gs_MD_nearest gm8 gm804) rfl rfl rfl ⟨rfl, hdy_MD_nearest⟩ ⟨Nat.le_of_ble_eq_true rfl, Nat.le_of_ble_eq_true rfl⟩) C_MD.1 km_56 hK hZ hP hS hA rfl hl.1 rfl (Nat.le_of_ble_eq_true rfl) d_MD_chosen_82 ⟨Nat.le_of_ble_eq_true rfl, Nat.le_of_ble_eq_true rfl⟩ (fun r h1 H locs hq9 hP hS => ?_)
                  obtain ⟨rfl, e9⟩ := hq9
                  rw [e9] at hP
                  refine W.eq (g2 := F0 m 85 ls [.int (pl (nearN S.q (dsF 2 (sc_52 24) (sc_52 25)) S.q.length))]) rfl ?_
                  refine W.eq (g2 := F0 m 85 ls [.int (nI k9)]) (by rw [e8]; rfl) ?_
                  refine lv_istore_n (lv' := [(1, .int (nI k9)), (0, .ref md)]) hx hb d_MD_chosen_85 rfl hl (by decide) rfl (fun ls hl => ?_)
                  refine lv_iload_n hx hb d_MD_chosen_86 rfl (lv_at hl 0 rfl) ?_
                  have hkl := (List.getElem?_eq_some_iff.mp hr9).1
                  refine lv_if_ge (tgt := 97) hx hb d_MD_chosen_87 (by decide) (fun c_59 => ?_) (fun c_59 => ?_)
                  · skip
                    refine lv_iload_n hx hb d_MD_chosen_97 rfl (lv_at hl 0 rfl) ?_
                    exact fh_iret hx hb hr hlocks (Nat.le_of_ble_eq_true rfl) (Nat.le_of_ble_eq_true rfl) hP hS ⟨k9, r9, rfl, hk9, hr9, by rw [eC]; show MDs E h_50 md ad (upd sc 25 1) ar; rw [← es_53]; exact m_54, K_55⟩ d_MD_chosen_98
                  · skip
                    exact absurd (nI_pos' (by omega)) c_59
        · skip
          refine lv_iconst (v := 0) hx hb d_MD_chosen_41 (by decide) ?_
          have eC : chs S.q S.tm S.hd S.up S.wy = (some 0, S.up) := by rw [eq]; exact chs_0 (Or.inr (Or.inr ⟨c_6, c_33⟩))
          exact fh_iret hx hb hr hlocks (Nat.le_of_ble_eq_true rfl) (Nat.le_of_ble_eq_true rfl) hP hS ⟨0, r0, rfl, by rw [eC], hq0, by rw [eC]; show MDs E h md ad (upd sc 25 S.up) ar; rw [upd_id a25]; exact hM, KM.rfl⟩ d_MD_chosen_42

set_option maxHeartbeats 800000 in
set_option maxRecDepth 100000 in
theorem c_MD_beginOne (l : Launch) (E : fh_E) (h : fh_H) (md : Nat) (ad : Nat → Nat) (sc : Nat → Int32) (ar : Nat → Nat → Int32) (hM : MDs E h md ad sc ar) (S : mS) (t : Nat) (hR : RM sc ar S) (hI : Inv S t) (hs : S.sv = none) (hne : S.q ≠ []) : fh_Met l y_MD_beginOne w_MD_beginOne ({ frames := 4, cells := 0, slots := 0, locals := 89 }) E [.ref md] h (fun r h1 => r = none ∧ ∃ sc1 ar1, MDs E h1 md ad sc1 ar1 ∧ RM sc1 ar1 (begM S) ∧ sc1 0 = sc 0 ∧ KM h h1 md ad) 0 0 := by
  refine fh_ofW (cc := b_MD_beginOne) (maxL := 3) (ret := none) (by decide) rfl (Nat.le_of_ble_eq_true rfl) ?_
  intro p e s m below meth c A ls hx hb hr hml hown hts hlocks hname hnoh hadm hA hK hZ hP hS hl
  have hG : ∀ w ∈ G, w.before _ s = true := fun w hw => hts w (List.mem_cons_of_mem _ hw)
  have hown : s.vm.findClass R_MD = some m.cls := hown
  have hl : lv_has ls 3 [(0, .ref md)] := hl
  have hR0 := hR
  obtain ⟨⟨a1, a2, a3, a4, a5, a6, a7, a8⟩, a9, ⟨a10, a11, a12⟩, a14, ⟨a15, a16⟩, ⟨a21, a22⟩, ⟨a24, a25⟩, a26, a27, a28⟩ := hR
  have i1 := hI.bs10
  have i2 := hI.q40
  have i3 := hI.ca6
  have km_1 : h md = some (.inr (7, [.int (sc 0), .int (sc 1), .int (sc 2), .int (sc 3), .int (sc 4), .int (sc 5), .int (sc 6), .int (sc 7), .int (sc 8), .ref (ad 9), .int (sc 10), .ref (ad 11), .ref (ad 12), .ref (ad 13), .int (sc 14), .int (sc 15), .ref (ad 16), .ref (ad 17), .ref (ad 18), .ref (ad 19), .ref (ad 20), .int (sc 21), .ref (ad 22), .ref (ad 23), .int (sc 24), .int (sc 25), .int (sc 26), .int (sc 27), .int (sc 28)])) := hM.1
  refine lv_aload_n hx hb d_MD_beginOne_0 rfl (lv_at hl 0 rfl) ?_
  refine fh_callV (C := R_MD) (y := y_MD_chosen) (bytes := b_MD_chosen) (maxL := 2) (ret := (some .int)) (index := 103) (As := []) (rest := []) ⟨hx, hb, hml, hown, hG⟩ (c_MD_chosen l E h md ad sc ar hM S t hR0 hI hne) (cwV 0 hG (gV gm797 gm799 gs_MD_chosen gm8 gm800) rfl rfl rfl ⟨rfl, hdy_MD_chosen⟩ ⟨Nat.le_of_ble_eq_true rfl, Nat.le_of_ble_eq_true rfl⟩) C_MD.1 km_1 hK hZ hP hS hA rfl hl.1 rfl (Nat.le_of_ble_eq_true rfl) d_MD_beginOne_1 ⟨Nat.le_of_ble_eq_true rfl, Nat.le_of_ble_eq_true rfl⟩ (fun r h_2 H locs hq9 hP hS => ?_)
  obtain ⟨k, r9, rfl, hk9, hr9, m0, K0⟩ := hq9
  have hkl := (List.getElem?_eq_some_iff.mp hr9).1
  refine W.eq (g2 := F0 m 4 ls [.int (nI k)]) rfl ?_
  obtain ⟨sc_3, es_4⟩ : ∃ z : Nat → Int32, z = upd sc 25 (chs S.q S.tm S.hd S.up S.wy).2 := ⟨_, rfl⟩
  rw [← es_4] at m0
  have km_5 : h_2 md = some (.inr (7, [.int (sc_3 0), .int (sc_3 1), .int (sc_3 2), .int (sc_3 3), .int (sc_3 4), .int (sc_3 5), .int (sc_3 6), .int (sc_3 7), .int (sc_3 8), .ref (ad 9), .int (sc_3 10), .ref (ad 11), .ref (ad 12), .ref (ad 13), .int (sc_3 14), .int (sc_3 15), .ref (ad 16), .ref (ad 17), .ref (ad 18), .ref (ad 19), .ref (ad 20), .int (sc_3 21), .ref (ad 22), .ref (ad 23), .int (sc_3 24), .int (sc_3 25), .int (sc_3 26), .int (sc_3 27), .int (sc_3 28)])) := m0.1
  refine lv_istore_n (lv' := [(1, .int (nI k)), (0, .ref md)]) hx hb d_MD_beginOne_4 rfl hl (by decide) rfl (fun ls hl => ?_)
  refine lv_aload_n hx hb d_MD_beginOne_5 rfl (lv_at hl 1 rfl) ?_
  refine lv_iload_n hx hb d_MD_beginOne_6 rfl (lv_at hl 0 rfl) ?_
  refine lv_bipush (v := 40) hx hb d_MD_beginOne_7 (by decide) ?_
  refine W.eq (g2 := F0 m 9 ls [.int (nI 40), .int (nI k), .ref md]) (rfl) ?_
  refine fh_callV (C := R_MD) (y := y_MD_copyRequest) (bytes := b_MD_copyRequest) (maxL := 3) (ret := none) (index := 106) (As := [.int (nI k), .int (nI 40)]) (rest := []) ⟨hx, hb, hml, hown, hG⟩ (c_MD_copyRequest l E h_2 md ad sc_3 ar m0 k 40 (by omega) (by decide)) (cwV 2 hG (gV gm821 gm823 gs_MD_copyRequest gm8 gm824) rfl rfl rfl ⟨rfl, hdy_MD_copyRequest⟩ ⟨Nat.le_of_ble_eq_true rfl, Nat.le_of_ble_eq_true rfl⟩) C_MD.1 km_5 hK hZ hP hS hA rfl hl.1 rfl (Nat.le_of_ble_eq_true rfl) d_MD_beginOne_9 ⟨Nat.le_of_ble_eq_true rfl, Nat.le_of_ble_eq_true rfl⟩ (fun r h_6 H locs hq9 hP hS => ?_)
  obtain ⟨rfl, m_9, K_11⟩ := hq9
  have K_15 : KM h h_6 md ad := (K0).trans K_11
  refine W.eq (g2 := F0 m 12 ls []) rfl ?_
  obtain ⟨ar_16, ea_17⟩ : ∃ z : Nat → Nat → Int32, z = cpA ar k 40 := ⟨_, rfl⟩
  rw [← ea_17] at m_9
  have km_18 : h_6 md = some (.inr (7, [.int (sc_3 0), .int (sc_3 1), .int (sc_3 2), .int (sc_3 3), .int (sc_3 4), .int (sc_3 5), .int (sc_3 6), .int (sc_3 7), .int (sc_3 8), .ref (ad 9), .int (sc_3 10), .ref (ad 11), .ref (ad 12), .ref (ad 13), .int (sc_3 14), .int (sc_3 15), .ref (ad 16), .ref (ad 17), .ref (ad 18), .ref (ad 19), .ref (ad 20), .int (sc_3 21), .ref (ad 22), .ref (ad 23), .int (sc_3 24), .int (sc_3 25), .int (sc_3 26), .int (sc_3 27), .int (sc_3 28)])) := m_9.1
  refine lv_aload_n hx hb d_MD_beginOne_12 rfl (lv_at hl 1 rfl) ?_
  refine lv_dup hx hb d_MD_beginOne_13 rfl ?_
  refine fh_get hx hb hG C_MD iG_MD hown hK hP km_18 15 (by decide) gm688 rfl d_MD_beginOne_14 ?_
  rw [show sc_3 15 = nI S.q.length by rw [es_4, upd_ne (by decide)]; exact a15]
  refine lv_iconst (v := 1) hx hb d_MD_beginOne_17 (by decide) ?_
  refine lv_isub hx hb d_MD_beginOne_18 ?_
  refine W.eq (g2 := F0 m 19 ls [.int (nI (S.q.length - 1)), .ref md]) (by rw [nI_dec (by omega)]) ?_
  refine fh_put hx hb hG C_MD iG_MD hown hK hP hS km_18 15 (by decide) gm688 rfl (v := .int (nI (S.q.length - 1))) rfl rfl (Nat.le_of_ble_eq_true rfl) d_MD_beginOne_19 (fun H locs hP hS => ?_)
  obtain ⟨h_19, eh_20⟩ : ∃ z : fh_H, z = va_up h_6 md (some (.inr (7, [.int (sc_3 0), .int (sc_3 1), .int (sc_3 2), .int (sc_3 3), .int (sc_3 4), .int (sc_3 5), .int (sc_3 6), .int (sc_3 7), .int (sc_3 8), .ref (ad 9), .int (sc_3 10), .ref (ad 11), .ref (ad 12), .ref (ad 13), .int (sc_3 14), .int (nI (S.q.length - 1)), .ref (ad 16), .ref (ad 17), .ref (ad 18), .ref (ad 19), .ref (ad 20), .int (sc_3 21), .ref (ad 22), .ref (ad 23), .int (sc_3 24), .int (sc_3 25), .int (sc_3 26), .int (sc_3 27), .int (sc_3 28)]))) := ⟨_, rfl⟩
  have hP : fh_P E.1 vwCl A h_19 H := by rw [eh_20]; exact hP
  obtain ⟨sc_21, es_22⟩ : ∃ z : Nat → Int32, z = upd sc_3 15 ((nI (S.q.length - 1))) := ⟨_, rfl⟩
  have m_23 : MDs E h_19 md ad sc_21 ar_16 := by rw [es_22]; exact m_9.setS (by rw [eh_20]; rfl)
  have K_24 : KM h h_19 md ad := (K_15).trans (KM.upS eh_20)
  have km_25 : h_19 md = some (.inr (7, [.int (sc_21 0), .int (sc_21 1), .int (sc_21 2), .int (sc_21 3), .int (sc_21 4), .int (sc_21 5), .int (sc_21 6), .int (sc_21 7), .int (sc_21 8), .ref (ad 9), .int (sc_21 10), .ref (ad 11), .ref (ad 12), .ref (ad 13), .int (sc_21 14), .int (sc_21 15), .ref (ad 16), .ref (ad 17), .ref (ad 18), .ref (ad 19), .ref (ad 20), .int (sc_21 21), .ref (ad 22), .ref (ad 23), .int (sc_21 24), .int (sc_21 25), .int (sc_21 26), .int (sc_21 27), .int (sc_21 28)])) := m_23.1
  refine lv_iload_n hx hb d_MD_beginOne_22 rfl (lv_at hl 0 rfl) ?_
  refine lv_istore_n (lv' := [(2, .int (nI k)), (1, .int (nI k)), (0, .ref md)]) hx hb d_MD_beginOne_23 rfl hl (by decide) rfl (fun ls hl => ?_)
  have e15 : sc_21 15 = nI (S.q.length - 1) := by rw [es_22, upd_eq]
  have loop : ∀ (f i : Nat) (ar' : Nat → Nat → Int32) (h' : fh_H) (H : Heap) (locs : List Loc) (ls : Array Slot), i + f + 1 = S.q.length → k ≤ i → lv_has ls 3 [(2, .int (nI i)), (1, .int (nI k)), (0, .ref md)] → fh_P E.1 vwCl A h' H → va_S A s.heap H locs → MDs E h' md ad sc_21 ar' → shS rA ar' S.q k i → rA ar' 40 r9 → (∀ k, k < 16 ∨ 20 < k → ar' k = ar k) → KM h h' md ad → W p l e ({ frames := 4, cells := 0, slots := 0, locals := 89 }) s m ([.ref md] : List Value).toArray below meth c H locs 0 0 (MQ below (fh_Post E (fun r h1 => r = none ∧ ∃ sc1 ar1, MDs E h1 md ad sc1 ar1 ∧ RM sc1 ar1 (begM S) ∧ sc1 0 = sc 0 ∧ KM h h1 md ad) A) ([.ref md] : List Value).toArray s 0 0 A) (F0 m 24 ls []) := by
    intro f
    induction f with
    | zero =>
      intro i ar' h' H locs ls hif hki hl hP hS hM' hsh h40 ho K'
      have km_26 : h' md = some (.inr (7, [.int (sc_21 0), .int (sc_21 1), .int (sc_21 2), .int (sc_21 3), .int (sc_21 4), .int (sc_21 5), .int (sc_21 6), .int (sc_21 7), .int (sc_21 8), .ref (ad 9), .int (sc_21 10), .ref (ad 11), .ref (ad 12), .ref (ad 13), .int (sc_21 14), .int (sc_21 15), .ref (ad 16), .ref (ad 17), .ref (ad 18), .ref (ad 19), .ref (ad 20), .int (sc_21 21), .ref (ad 22), .ref (ad 23), .int (sc_21 24), .int (sc_21 25), .int (sc_21 26), .int (sc_21 27), .int (sc_21 28)])) := hM'.1
      refine lv_iload_n hx hb d_MD_beginOne_24 rfl (lv_at hl 0 rfl) ?_
      refine lv_aload_n hx hb d_MD_beginOne_25 rfl (lv_at hl 2 rfl) ?_
      refine fh_get hx hb hG C_MD iG_MD hown hK hP km_26 15 (by decide) gm688 rfl d_MD_beginOne_26 ?_
      refine lv_icmp_ge (tgt := 46) hx hb d_MD_beginOne_29 (by decide) (fun c_27 => ?_) (fun c_27 => ?_)
      · skip
        refine lv_aload_n hx hb d_MD_beginOne_46 rfl (lv_at hl 2 rfl) ?_
        refine lv_iconst (v := 1) hx hb d_MD_beginOne_47 (by decide) ?_
        refine fh_put hx hb hG C_MD iG_MD hown hK hP hS km_26 26 (by decide) gm699 rfl (v := .int 1) rfl rfl (Nat.le_of_ble_eq_true rfl) d_MD_beginOne_48 (fun H locs hP hS => ?_)
        obtain ⟨h_28, eh_29⟩ : ∃ z : fh_H, z = va_up h' md (some (.inr (7, [.int (sc_21 0), .int (sc_21 1), .int (sc_21 2), .int (sc_21 3), .int (sc_21 4), .int (sc_21 5), .int (sc_21 6), .int (sc_21 7), .int (sc_21 8), .ref (ad 9), .int (sc_21 10), .ref (ad 11), .ref (ad 12), .ref (ad 13), .int (sc_21 14), .int (sc_21 15), .ref (ad 16), .ref (ad 17), .ref (ad 18), .ref (ad 19), .ref (ad 20), .int (sc_21 21), .ref (ad 22), .ref (ad 23), .int (sc_21 24), .int (sc_21 25), .int 1, .int (sc_21 27), .int (sc_21 28)]))) := ⟨_, rfl⟩
        have hP : fh_P E.1 vwCl A h_28 H := by rw [eh_29]; exact hP
        obtain ⟨sc_30, es_31⟩ : ∃ z : Nat → Int32, z = upd sc_21 26 (1) := ⟨_, rfl⟩
        have m_32 : MDs E h_28 md ad sc_30 ar' := by rw [es_31]; exact hM'.setS (by rw [eh_29]; rfl)
        have K_33 : KM h h_28 md ad := (K').trans (KM.upS eh_29)
        have km_34 : h_28 md = some (.inr (7, [.int (sc_30 0), .int (sc_30 1), .int (sc_30 2), .int (sc_30 3), .int (sc_30 4), .int (sc_30 5), .int (sc_30 6), .int (sc_30 7), .int (sc_30 8), .ref (ad 9), .int (sc_30 10), .ref (ad 11), .ref (ad 12), .ref (ad 13), .int (sc_30 14), .int (sc_30 15), .ref (ad 16), .ref (ad 17), .ref (ad 18), .ref (ad 19), .ref (ad 20), .int (sc_30 21), .ref (ad 22), .ref (ad 23), .int (sc_30 24), .int (sc_30 25), .int (sc_30 26), .int (sc_30 27), .int (sc_30 28)])) := m_32.1
        have km_35 : h_28 md = some (.inr (7, [.int (sc_30 0), .int (sc_30 1), .int (sc_30 2), .int (sc_30 3), .int (sc_30 4), .int (sc_30 5), .int (sc_30 6), .int (sc_30 7), .int (sc_30 8), .ref (ad 9), .int (sc_30 10), .ref (ad 11), .ref (ad 12), .ref (ad 13), .int (sc_30 14), .int (sc_30 15), .ref (ad 16), .ref (ad 17), .ref (ad 18), .ref (ad 19), .ref (ad 20), .int (sc_30 21), .ref (ad 22), .ref (ad 23), .int (sc_30 24), .int (sc_30 25), .int (sc_30 26), .int (sc_30 27), .int (sc_30 28)])) := m_32.1
        have ka_36 : h_28 (ad 17) = some (.inl (fh_cI E, 41, .inl (ar' 17))) := m_32.2.1 17 rfl
        have ka_37 : h_28 (ad 18) = some (.inl (fh_cI E, 41, .inl (ar' 18))) := m_32.2.1 18 rfl
        have u1 : sc_30 1 = S.tm := by rw [es_31, upd_ne (by decide), es_22, upd_ne (by decide), es_4, upd_ne (by decide)]; exact a1
        have u21 : sc_30 21 = nI S.ca.length := by rw [es_31, upd_ne (by decide), es_22, upd_ne (by decide), es_4, upd_ne (by decide)]; exact a21
        have u24 : sc_30 24 = S.hd := by rw [es_31, upd_ne (by decide), es_22, upd_ne (by decide), es_4, upd_ne (by decide)]; exact a24
        refine lv_aload_n hx hb d_MD_beginOne_51 rfl (lv_at hl 2 rfl) ?_
        refine fh_get hx hb hG C_MD iG_MD hown hK hP km_35 17 (by decide) gm690 rfl d_MD_beginOne_52 ?_
        refine lv_bipush (v := 40) hx hb d_MD_beginOne_55 (by decide) ?_
        refine W.eq (g2 := F0 m 57 ls [.int (nI 40), .ref (ad 17)]) (rfl) ?_
        refine fh_ialK hx hb hK hP 0 ka_36 rfl (k := 40) (by omega) (by decide) d_MD_beginOne_57 ?_
        rw [h40.2.1]
        refine lv_iconst (v := 2) hx hb d_MD_beginOne_58 (by decide) ?_
        refine lv_icmp_ne (tgt := 80) hx hb d_MD_beginOne_59 (by decide) (fun c_38 => ?_) (fun c_38 => ?_)
        · skip
          refine lv_aload_n hx hb d_MD_beginOne_80 rfl (lv_at hl 2 rfl) ?_
          refine lv_bipush (v := 40) hx hb d_MD_beginOne_81 (by decide) ?_
          refine W.eq (g2 := F0 m 83 ls [.int (nI 40), .ref md]) (rfl) ?_
          refine fh_callV (C := R_MD) (y := y_MD_track) (bytes := b_MD_track) (maxL := 2) (ret := (some .int)) (index := 81) (As := [.int (nI 40)]) (rest := []) ⟨hx, hb, hml, hown, hG⟩ (c_MD_track l E h_28 md ad sc_30 ar' m_32 40 (by decide)) (cwV 1 hG (gV gm813 gm815 gs_MD_track gm8 gm816) rfl rfl rfl ⟨rfl, hdy_MD_track⟩ ⟨Nat.le_of_ble_eq_true rfl, Nat.le_of_ble_eq_true rfl⟩) C_MD.1 km_35 hK hZ hP hS hA rfl hl.1 rfl (Nat.le_of_ble_eq_true rfl) d_MD_beginOne_83 ⟨Nat.le_of_ble_eq_true rfl, Nat.le_of_ble_eq_true rfl⟩ (fun r h1 H locs hq9 hP hS => ?_)
          obtain ⟨rfl, e9⟩ := hq9
          rw [e9] at hP
          refine W.eq (g2 := F0 m 86 ls [.int (ar' 18 40 / 8)]) rfl ?_
          rw [h40.2.2.1]
          refine lv_aload_n hx hb d_MD_beginOne_86 rfl (lv_at hl 2 rfl) ?_
          refine fh_get hx hb hG C_MD iG_MD hown hK hP km_35 24 (by decide) gm697 rfl d_MD_beginOne_87 ?_
          rw [u24]
          refine lv_isub hx hb d_MD_beginOne_90 ?_
          refine lv_istore_n (lv' := [(2, .int (((r9.2.2.1 / 8)) - ((S.hd)))), (1, .int (nI k)), (0, .ref md)]) hx hb d_MD_beginOne_91 rfl hl (by decide) rfl (fun ls hl => ?_)
          refine lv_aload_n hx hb d_MD_beginOne_92 rfl (lv_at hl 2 rfl) ?_
          refine lv_aload_n hx hb d_MD_beginOne_93 rfl (lv_at hl 2 rfl) ?_
          refine fh_get hx hb hG C_MD iG_MD hown hK hP km_35 1 (by decide) gm674 rfl d_MD_beginOne_94 ?_
          rw [u1]
          refine lv_iload_n hx hb d_MD_beginOne_97 rfl (lv_at hl 0 rfl) ?_
          refine lv_if_ge (tgt := 106) hx hb d_MD_beginOne_98 (by decide) (fun c_39 => ?_) (fun c_39 => ?_)
          · skip
            refine lv_iload_n hx hb d_MD_beginOne_106 rfl (lv_at hl 0 rfl) ?_
            refine lv_iadd hx hb d_MD_beginOne_107 ?_
            refine lv_iconst (v := 2) hx hb d_MD_beginOne_108 (by decide) ?_
            refine lv_iadd hx hb d_MD_beginOne_109 ?_
            refine W.eq (g2 := F0 m 110 ls [.int (S.tm + ((r9.2.2.1 / 8 - S.hd) + 2)), .ref md]) (by rw [Int32.add_assoc]) ?_
            refine fh_put hx hb hG C_MD iG_MD hown hK hP hS km_35 27 (by decide) gm700 rfl (v := .int (S.tm + ((r9.2.2.1 / 8 - S.hd) + 2))) rfl rfl (Nat.le_of_ble_eq_true rfl) d_MD_beginOne_110 (fun H locs hP hS => ?_)
            obtain ⟨h_40, eh_41⟩ : ∃ z : fh_H, z = va_up h_28 md (some (.inr (7, [.int (sc_30 0), .int (sc_30 1), .int (sc_30 2), .int (sc_30 3), .int (sc_30 4), .int (sc_30 5), .int (sc_30 6), .int (sc_30 7), .int (sc_30 8), .ref (ad 9), .int (sc_30 10), .ref (ad 11), .ref (ad 12), .ref (ad 13), .int (sc_30 14), .int (sc_30 15), .ref (ad 16), .ref (ad 17), .ref (ad 18), .ref (ad 19), .ref (ad 20), .int (sc_30 21), .ref (ad 22), .ref (ad 23), .int (sc_30 24), .int (sc_30 25), .int (sc_30 26), .int (S.tm + ((r9.2.2.1 / 8 - S.hd) + 2)), .int (sc_30 28)]))) := ⟨_, rfl⟩
            have hP : fh_P E.1 vwCl A h_40 H := by rw [eh_41]; exact hP
            obtain ⟨sc_42, es_43⟩ : ∃ z : Nat → Int32, z = upd sc_30 27 ((S.tm + ((r9.2.2.1 / 8 - S.hd) + 2))) := ⟨_, rfl⟩
            have m_44 : MDs E h_40 md ad sc_42 ar' := by rw [es_43]; exact m_32.setS (by rw [eh_41]; rfl)
            have K_45 : KM h h_40 md ad := (K_33).trans (KM.upS eh_41)
            have km_46 : h_40 md = some (.inr (7, [.int (sc_42 0), .int (sc_42 1), .int (sc_42 2), .int (sc_42 3), .int (sc_42 4), .int (sc_42 5), .int (sc_42 6), .int (sc_42 7), .int (sc_42 8), .ref (ad 9), .int (sc_42 10), .ref (ad 11), .ref (ad 12), .ref (ad 13), .int (sc_42 14), .int (sc_42 15), .ref (ad 16), .ref (ad 17), .ref (ad 18), .ref (ad 19), .ref (ad 20), .int (sc_42 21), .ref (ad 22), .ref (ad 23), .int (sc_42 24), .int (sc_42 25), .int (sc_42 26), .int (sc_42 27), .int (sc_42 28)])) := m_44.1
            have ka_47 : h_40 (ad 17) = some (.inl (fh_cI E, 41, .inl (ar' 17))) := m_44.2.1 17 rfl
            have ka_48 : h_40 (ad 18) = some (.inl (fh_cI E, 41, .inl (ar' 18))) := m_44.2.1 18 rfl
            refine lv_aload_n hx hb d_MD_beginOne_113 rfl (lv_at hl 2 rfl) ?_
            refine lv_aload_n hx hb d_MD_beginOne_114 rfl (lv_at hl 2 rfl) ?_
            refine lv_bipush (v := 40) hx hb d_MD_beginOne_115 (by decide) ?_
            refine W.eq (g2 := F0 m 117 ls [.int (nI 40), .ref md, .ref md]) (rfl) ?_
            refine fh_callV (C := R_MD) (y := y_MD_track) (bytes := b_MD_track) (maxL := 2) (ret := (some .int)) (index := 81) (As := [.int (nI 40)]) (rest := [.ref md]) ⟨hx, hb, hml, hown, hG⟩ (c_MD_track l E h_40 md ad sc_42 ar' m_44 40 (by decide)) (cwV 1 hG (gV gm813 gm815 gs_MD_track gm8 gm816) rfl rfl rfl ⟨rfl, hdy_MD_track⟩ ⟨Nat.le_of_ble_eq_true rfl, Nat.le_of_ble_eq_true rfl⟩) C_MD.1 km_46 hK hZ hP hS hA rfl hl.1 rfl (Nat.le_of_ble_eq_true rfl) d_MD_beginOne_117 ⟨Nat.le_of_ble_eq_true rfl, Nat.le_of_ble_eq_true rfl⟩ (fun r h1 H locs hq9 hP hS => ?_)
            obtain ⟨rfl, e9⟩ := hq9
            rw [e9] at hP
            refine W.eq (g2 := F0 m 120 ls [.int (ar' 18 40 / 8), .ref md]) rfl ?_
            rw [h40.2.2.1]
            refine fh_put hx hb hG C_MD iG_MD hown hK hP hS km_46 24 (by decide) gm697 rfl (v := .int (r9.2.2.1 / 8)) rfl rfl (Nat.le_of_ble_eq_true rfl) d_MD_beginOne_120 (fun H locs hP hS => ?_)
            obtain ⟨h_49, eh_50⟩ : ∃ z : fh_H, z = va_up h_40 md (some (.inr (7, [.int (sc_42 0), .int (sc_42 1), .int (sc_42 2), .int (sc_42 3), .int (sc_42 4), .int (sc_42 5), .int (sc_42 6), .int (sc_42 7), .int (sc_42 8), .ref (ad 9), .int (sc_42 10), .ref (ad 11), .ref (ad 12), .ref (ad 13), .int (sc_42 14), .int (sc_42 15), .ref (ad 16), .ref (ad 17), .ref (ad 18), .ref (ad 19), .ref (ad 20), .int (sc_42 21), .ref (ad 22), .ref (ad 23), .int (r9.2.2.1 / 8), .int (sc_42 25), .int (sc_42 26), .int (sc_42 27), .int (sc_42 28)]))) := ⟨_, rfl⟩
            have hP : fh_P E.1 vwCl A h_49 H := by rw [eh_50]; exact hP
            obtain ⟨sc_51, es_52⟩ : ∃ z : Nat → Int32, z = upd sc_42 24 ((r9.2.2.1 / 8)) := ⟨_, rfl⟩
            have m_53 : MDs E h_49 md ad sc_51 ar' := by rw [es_52]; exact m_44.setS (by rw [eh_50]; rfl)
            have K_54 : KM h h_49 md ad := (K_45).trans (KM.upS eh_50)
            have km_55 : h_49 md = some (.inr (7, [.int (sc_51 0), .int (sc_51 1), .int (sc_51 2), .int (sc_51 3), .int (sc_51 4), .int (sc_51 5), .int (sc_51 6), .int (sc_51 7), .int (sc_51 8), .ref (ad 9), .int (sc_51 10), .ref (ad 11), .ref (ad 12), .ref (ad 13), .int (sc_51 14), .int (sc_51 15), .ref (ad 16), .ref (ad 17), .ref (ad 18), .ref (ad 19), .ref (ad 20), .int (sc_51 21), .ref (ad 22), .ref (ad 23), .int (sc_51 24), .int (sc_51 25), .int (sc_51 26), .int (sc_51 27), .int (sc_51 28)])) := m_53.1
            have ka_56 : h_49 (ad 17) = some (.inl (fh_cI E, 41, .inl (ar' 17))) := m_53.2.1 17 rfl
            have ka_57 : h_49 (ad 18) = some (.inl (fh_cI E, 41, .inl (ar' 18))) := m_53.2.1 18 rfl
            exact fh_vret hx hb hr hlocks (Nat.le_of_ble_eq_true rfl) (Nat.le_of_ble_eq_true rfl) hP hS ⟨rfl, sc_51, ar', m_53, hR0.beg hs hk9 hr9 (fun j hj => by rw [es_52, upd_ne (by omega), es_43, upd_ne (by omega), es_31, upd_ne (by omega), es_22, upd_ne (by omega), es_4, upd_ne (by omega)]) (by rw [es_52, upd_ne (by decide), es_43, upd_ne (by decide), es_31, upd_ne (by decide), es_22, upd_eq]) (by rw [es_52, upd_eq]; exact (if_neg c_38).symm) (by rw [es_52, upd_ne (by decide), es_43, upd_ne (by decide), es_31, upd_ne (by decide), es_22, upd_ne (by decide), es_4, upd_eq]) (by rw [es_52, upd_ne (by decide), es_43, upd_ne (by decide), es_31, upd_eq]) (by rw [es_52, upd_ne (by decide), es_43, upd_eq, show begU r9 S.ca.length S.hd = absJ (r9.2.2.1 / 8 - S.hd) + 2 from if_neg c_38, show absJ (r9.2.2.1 / 8 - S.hd) = (r9.2.2.1 / 8 - S.hd) from if_pos c_39]) ho (shS_e hsh (by omega)) h40, by rw [es_52, upd_ne (by decide), es_43, upd_ne (by decide), es_31, upd_ne (by decide), es_22, upd_ne (by decide), es_4, upd_ne (by decide)], K_54⟩ d_MD_beginOne_123
          · skip
            refine lv_iload_n hx hb d_MD_beginOne_101 rfl (lv_at hl 0 rfl) ?_
            refine lv_ineg hx hb d_MD_beginOne_102 ?_
            refine lv_goto (tgt := 107) hx hb d_MD_beginOne_103 (by decide) ?_
            refine lv_iadd hx hb d_MD_beginOne_107 ?_
            refine lv_iconst (v := 2) hx hb d_MD_beginOne_108 (by decide) ?_
            refine lv_iadd hx hb d_MD_beginOne_109 ?_
            refine W.eq (g2 := F0 m 110 ls [.int (S.tm + (-(r9.2.2.1 / 8 - S.hd) + 2)), .ref md]) (by rw [Int32.add_assoc]) ?_
            refine fh_put hx hb hG C_MD iG_MD hown hK hP hS km_35 27 (by decide) gm700 rfl (v := .int (S.tm + (-(r9.2.2.1 / 8 - S.hd) + 2))) rfl rfl (Nat.le_of_ble_eq_true rfl) d_MD_beginOne_110 (fun H locs hP hS => ?_)
            obtain ⟨h_58, eh_59⟩ : ∃ z : fh_H, z = va_up h_28 md (some (.inr (7, [.int (sc_30 0), .int (sc_30 1), .int (sc_30 2), .int (sc_30 3), .int (sc_30 4), .int (sc_30 5), .int (sc_30 6), .int (sc_30 7), .int (sc_30 8), .ref (ad 9), .int (sc_30 10), .ref (ad 11), .ref (ad 12), .ref (ad 13), .int (sc_30 14), .int (sc_30 15), .ref (ad 16), .ref (ad 17), .ref (ad 18), .ref (ad 19), .ref (ad 20), .int (sc_30 21), .ref (ad 22), .ref (ad 23), .int (sc_30 24), .int (sc_30 25), .int (sc_30 26), .int (S.tm + (-(r9.2.2.1 / 8 - S.hd) + 2)), .int (sc_30 28)]))) := ⟨_, rfl⟩
            have hP : fh_P E.1 vwCl A h_58 H := by rw [eh_59]; exact hP
            obtain ⟨sc_60, es_61⟩ : ∃ z : Nat → Int32, z = upd sc_30 27 ((S.tm + (-(r9.2.2.1 / 8 - S.hd) + 2))) := ⟨_, rfl⟩
            have m_62 : MDs E h_58 md ad sc_60 ar' := by rw [es_61]; exact m_32.setS (by rw [eh_59]; rfl)
            have K_63 : KM h h_58 md ad := (K_33).trans (KM.upS eh_59)
            have km_64 : h_58 md = some (.inr (7, [.int (sc_60 0), .int (sc_60 1), .int (sc_60 2), .int (sc_60 3), .int (sc_60 4), .int (sc_60 5), .int (sc_60 6), .int (sc_60 7), .int (sc_60 8), .ref (ad 9), .int (sc_60 10), .ref (ad 11), .ref (ad 12), .ref (ad 13), .int (sc_60 14), .int (sc_60 15), .ref (ad 16), .ref (ad 17), .ref (ad 18), .ref (ad 19), .ref (ad 20), .int (sc_60 21), .ref (ad 22), .ref (ad 23), .int (sc_60 24), .int (sc_60 25), .int (sc_60 26), .int (sc_60 27), .int (sc_60 28)])) := m_62.1
            have ka_65 : h_58 (ad 17) = some (.inl (fh_cI E, 41, .inl (ar' 17))) := m_62.2.1 17 rfl
            have ka_66 : h_58 (ad 18) = some (.inl (fh_cI E, 41, .inl (ar' 18))) := m_62.2.1 18 rfl
            refine lv_aload_n hx hb d_MD_beginOne_113 rfl (lv_at hl 2 rfl) ?_
            refine lv_aload_n hx hb d_MD_beginOne_114 rfl (lv_at hl 2 rfl) ?_
            refine lv_bipush (v := 40) hx hb d_MD_beginOne_115 (by decide) ?_
            refine W.eq (g2 := F0 m 117 ls [.int (nI 40), .ref md, .ref md]) (rfl) ?_
            refine fh_callV (C := R_MD) (y := y_MD_track) (bytes := b_MD_track) (maxL := 2) (ret := (some .int)) (index := 81) (As := [.int (nI 40)]) (rest := [.ref md]) ⟨hx, hb, hml, hown, hG⟩ (c_MD_track l E h_58 md ad sc_60 ar' m_62 40 (by decide)) (cwV 1 hG (gV gm813 gm815 gs_MD_track gm8 gm816) rfl rfl rfl ⟨rfl, hdy_MD_track⟩ ⟨Nat.le_of_ble_eq_true rfl, Nat.le_of_ble_eq_true rfl⟩) C_MD.1 km_64 hK hZ hP hS hA rfl hl.1 rfl (Nat.le_of_ble_eq_true rfl) d_MD_beginOne_117 ⟨Nat.le_of_ble_eq_true rfl, Nat.le_of_ble_eq_true rfl⟩ (fun r h1 H locs hq9 hP hS => ?_)
            obtain ⟨rfl, e9⟩ := hq9
            rw [e9] at hP
            refine W.eq (g2 := F0 m 120 ls [.int (ar' 18 40 / 8), .ref md]) rfl ?_
            rw [h40.2.2.1]
            refine fh_put hx hb hG C_MD iG_MD hown hK hP hS km_64 24 (by decide) gm697 rfl (v := .int (r9.2.2.1 / 8)) rfl rfl (Nat.le_of_ble_eq_true rfl) d_MD_beginOne_120 (fun H locs hP hS => ?_)
            obtain ⟨h_67, eh_68⟩ : ∃ z : fh_H, z = va_up h_58 md (some (.inr (7, [.int (sc_60 0), .int (sc_60 1), .int (sc_60 2), .int (sc_60 3), .int (sc_60 4), .int (sc_60 5), .int (sc_60 6), .int (sc_60 7), .int (sc_60 8), .ref (ad 9), .int (sc_60 10), .ref (ad 11), .ref (ad 12), .ref (ad 13), .int (sc_60 14), .int (sc_60 15), .ref (ad 16), .ref (ad 17), .ref (ad 18), .ref (ad 19), .ref (ad 20), .int (sc_60 21), .ref (ad 22), .ref (ad 23), .int (r9.2.2.1 / 8), .int (sc_60 25), .int (sc_60 26), .int (sc_60 27), .int (sc_60 28)]))) := ⟨_, rfl⟩
            have hP : fh_P E.1 vwCl A h_67 H := by rw [eh_68]; exact hP
            obtain ⟨sc_69, es_70⟩ : ∃ z : Nat → Int32, z = upd sc_60 24 ((r9.2.2.1 / 8)) := ⟨_, rfl⟩
            have m_71 : MDs E h_67 md ad sc_69 ar' := by rw [es_70]; exact m_62.setS (by rw [eh_68]; rfl)
            have K_72 : KM h h_67 md ad := (K_63).trans (KM.upS eh_68)
            have km_73 : h_67 md = some (.inr (7, [.int (sc_69 0), .int (sc_69 1), .int (sc_69 2), .int (sc_69 3), .int (sc_69 4), .int (sc_69 5), .int (sc_69 6), .int (sc_69 7), .int (sc_69 8), .ref (ad 9), .int (sc_69 10), .ref (ad 11), .ref (ad 12), .ref (ad 13), .int (sc_69 14), .int (sc_69 15), .ref (ad 16), .ref (ad 17), .ref (ad 18), .ref (ad 19), .ref (ad 20), .int (sc_69 21), .ref (ad 22), .ref (ad 23), .int (sc_69 24), .int (sc_69 25), .int (sc_69 26), .int (sc_69 27), .int (sc_69 28)])) := m_71.1
            have ka_74 : h_67 (ad 17) = some (.inl (fh_cI E, 41, .inl (ar' 17))) := m_71.2.1 17 rfl
            have ka_75 : h_67 (ad 18) = some (.inl (fh_cI E, 41, .inl (ar' 18))) := m_71.2.1 18 rfl
            exact fh_vret hx hb hr hlocks (Nat.le_of_ble_eq_true rfl) (Nat.le_of_ble_eq_true rfl) hP hS ⟨rfl, sc_69, ar', m_71, hR0.beg hs hk9 hr9 (fun j hj => by rw [es_70, upd_ne (by omega), es_61, upd_ne (by omega), es_31, upd_ne (by omega), es_22, upd_ne (by omega), es_4, upd_ne (by omega)]) (by rw [es_70, upd_ne (by decide), es_61, upd_ne (by decide), es_31, upd_ne (by decide), es_22, upd_eq]) (by rw [es_70, upd_eq]; exact (if_neg c_38).symm) (by rw [es_70, upd_ne (by decide), es_61, upd_ne (by decide), es_31, upd_ne (by decide), es_22, upd_ne (by decide), es_4, upd_eq]) (by rw [es_70, upd_ne (by decide), es_61, upd_ne (by decide), es_31, upd_eq]) (by rw [es_70, upd_ne (by decide), es_61, upd_eq, show begU r9 S.ca.length S.hd = absJ (r9.2.2.1 / 8 - S.hd) + 2 from if_neg c_38, show absJ (r9.2.2.1 / 8 - S.hd) = -(r9.2.2.1 / 8 - S.hd) from (if_neg c_39).trans (i32_n0 _)]) ho (shS_e hsh (by omega)) h40, by rw [es_70, upd_ne (by decide), es_61, upd_ne (by decide), es_31, upd_ne (by decide), es_22, upd_ne (by decide), es_4, upd_ne (by decide)], K_72⟩ d_MD_beginOne_123
        · skip
          refine lv_aload_n hx hb d_MD_beginOne_62 rfl (lv_at hl 2 rfl) ?_
          refine lv_aload_n hx hb d_MD_beginOne_63 rfl (lv_at hl 2 rfl) ?_
          refine fh_get hx hb hG C_MD iG_MD hown hK hP km_35 1 (by decide) gm674 rfl d_MD_beginOne_64 ?_
          refine lv_aload_n hx hb d_MD_beginOne_67 rfl (lv_at hl 2 rfl) ?_
          refine fh_get hx hb hG C_MD iG_MD hown hK hP km_35 21 (by decide) gm694 rfl d_MD_beginOne_68 ?_
          refine lv_iadd hx hb d_MD_beginOne_71 ?_
          refine lv_iconst (v := 1) hx hb d_MD_beginOne_72 (by decide) ?_
          refine lv_iadd hx hb d_MD_beginOne_73 ?_
          refine W.eq (g2 := F0 m 74 ls [.int (S.tm + (nI S.ca.length + 1)), .ref md]) (by rw [u1, u21, Int32.add_assoc]) ?_
          refine fh_put hx hb hG C_MD iG_MD hown hK hP hS km_35 27 (by decide) gm700 rfl (v := .int (S.tm + (nI S.ca.length + 1))) rfl rfl (Nat.le_of_ble_eq_true rfl) d_MD_beginOne_74 (fun H locs hP hS => ?_)
          obtain ⟨h_76, eh_77⟩ : ∃ z : fh_H, z = va_up h_28 md (some (.inr (7, [.int (sc_30 0), .int (sc_30 1), .int (sc_30 2), .int (sc_30 3), .int (sc_30 4), .int (sc_30 5), .int (sc_30 6), .int (sc_30 7), .int (sc_30 8), .ref (ad 9), .int (sc_30 10), .ref (ad 11), .ref (ad 12), .ref (ad 13), .int (sc_30 14), .int (sc_30 15), .ref (ad 16), .ref (ad 17), .ref (ad 18), .ref (ad 19), .ref (ad 20), .int (sc_30 21), .ref (ad 22), .ref (ad 23), .int (sc_30 24), .int (sc_30 25), .int (sc_30 26), .int (S.tm + (nI S.ca.length + 1)), .int (sc_30 28)]))) := ⟨_, rfl⟩
          have hP : fh_P E.1 vwCl A h_76 H := by rw [eh_77]; exact hP
          obtain ⟨sc_78, es_79⟩ : ∃ z : Nat → Int32, z = upd sc_30 27 ((S.tm + (nI S.ca.length + 1))) := ⟨_, rfl⟩
          have m_80 : MDs E h_76 md ad sc_78 ar' := by rw [es_79]; exact m_32.setS (by rw [eh_77]; rfl)
          have K_81 : KM h h_76 md ad := (K_33).trans (KM.upS eh_77)
          have km_82 : h_76 md = some (.inr (7, [.int (sc_78 0), .int (sc_78 1), .int (sc_78 2), .int (sc_78 3), .int (sc_78 4), .int (sc_78 5), .int (sc_78 6), .int (sc_78 7), .int (sc_78 8), .ref (ad 9), .int (sc_78 10), .ref (ad 11), .ref (ad 12), .ref (ad 13), .int (sc_78 14), .int (sc_78 15), .ref (ad 16), .ref (ad 17), .ref (ad 18), .ref (ad 19), .ref (ad 20), .int (sc_78 21), .ref (ad 22), .ref (ad 23), .int (sc_78 24), .int (sc_78 25), .int (sc_78 26), .int (sc_78 27), .int (sc_78 28)])) := m_80.1
          have ka_83 : h_76 (ad 17) = some (.inl (fh_cI E, 41, .inl (ar' 17))) := m_80.2.1 17 rfl
          have ka_84 : h_76 (ad 18) = some (.inl (fh_cI E, 41, .inl (ar' 18))) := m_80.2.1 18 rfl
          refine lv_goto (tgt := 123) hx hb d_MD_beginOne_77 (by decide) ?_
          exact fh_vret hx hb hr hlocks (Nat.le_of_ble_eq_true rfl) (Nat.le_of_ble_eq_true rfl) hP hS ⟨rfl, sc_78, ar', m_80, hR0.beg hs hk9 hr9 (fun j hj => by rw [es_79, upd_ne (by omega), es_31, upd_ne (by omega), es_22, upd_ne (by omega), es_4, upd_ne (by omega)]) (by rw [es_79, upd_ne (by decide), es_31, upd_ne (by decide), es_22, upd_eq]) (by rw [es_79, upd_ne (by decide), es_31, upd_ne (by decide), es_22, upd_ne (by decide), es_4, upd_ne (by decide), a24]; exact (if_pos c_38).symm) (by rw [es_79, upd_ne (by decide), es_31, upd_ne (by decide), es_22, upd_ne (by decide), es_4, upd_eq]) (by rw [es_79, upd_ne (by decide), es_31, upd_eq]) (by rw [es_79, upd_eq, show begU r9 S.ca.length S.hd = nI S.ca.length + 1 from if_pos c_38]) ho (shS_e hsh (by omega)) h40, by rw [es_79, upd_ne (by decide), es_31, upd_ne (by decide), es_22, upd_ne (by decide), es_4, upd_ne (by decide)], K_81⟩ d_MD_beginOne_123
      · skip
        exact absurd (show sc_21 15 ≤ nI i by rw [e15]; exact nI_le (by omega) (by omega)) c_27
    | succ f ih =>
      intro i ar' h' H locs ls hif hki hl hP hS hM' hsh h40 ho K'
      have km_85 : h' md = some (.inr (7, [.int (sc_21 0), .int (sc_21 1), .int (sc_21 2), .int (sc_21 3), .int (sc_21 4), .int (sc_21 5), .int (sc_21 6), .int (sc_21 7), .int (sc_21 8), .ref (ad 9), .int (sc_21 10), .ref (ad 11), .ref (ad 12), .ref (ad 13), .int (sc_21 14), .int (sc_21 15), .ref (ad 16), .ref (ad 17), .ref (ad 18), .ref (ad 19), .ref (ad 20), .int (sc_21 21), .ref (ad 22), .ref (ad 23), .int (sc_21 24), .int (sc_21 25), .int (sc_21 26), .int (sc_21 27), .int (sc_21 28)])) := hM'.1
      refine lv_iload_n hx hb d_MD_beginOne_24 rfl (lv_at hl 0 rfl) ?_
      refine lv_aload_n hx hb d_MD_beginOne_25 rfl (lv_at hl 2 rfl) ?_
      refine fh_get hx hb hG C_MD iG_MD hown hK hP km_85 15 (by decide) gm688 rfl d_MD_beginOne_26 ?_
      refine lv_icmp_ge (tgt := 46) hx hb d_MD_beginOne_29 (by decide) (fun c_86 => ?_) (fun c_86 => ?_)
      · skip
        rw [e15] at c_86
        exact absurd c_86 (nI_ge (by omega) (by omega))
      · skip
        refine lv_aload_n hx hb d_MD_beginOne_32 rfl (lv_at hl 2 rfl) ?_
        refine lv_iload_n hx hb d_MD_beginOne_33 rfl (lv_at hl 0 rfl) ?_
        refine lv_iconst (v := 1) hx hb d_MD_beginOne_34 (by decide) ?_
        refine lv_iadd hx hb d_MD_beginOne_35 ?_
        refine lv_iload_n hx hb d_MD_beginOne_36 rfl (lv_at hl 0 rfl) ?_
        refine W.eq (g2 := F0 m 37 ls [.int (nI i), .int (nI (i + 1)), .ref md]) (by rw [nI_1]) ?_
        refine fh_callV (C := R_MD) (y := y_MD_copyRequest) (bytes := b_MD_copyRequest) (maxL := 3) (ret := none) (index := 106) (As := [.int (nI (i + 1)), .int (nI i)]) (rest := []) ⟨hx, hb, hml, hown, hG⟩ (c_MD_copyRequest l E h' md ad sc_21 ar' hM' (i + 1) i (by omega) (by omega)) (cwV 2 hG (gV gm821 gm823 gs_MD_copyRequest gm8 gm824) rfl rfl rfl ⟨rfl, hdy_MD_copyRequest⟩ ⟨Nat.le_of_ble_eq_true rfl, Nat.le_of_ble_eq_true rfl⟩) C_MD.1 km_85 hK hZ hP hS hA rfl hl.1 rfl (Nat.le_of_ble_eq_true rfl) d_MD_beginOne_37 ⟨Nat.le_of_ble_eq_true rfl, Nat.le_of_ble_eq_true rfl⟩ (fun r h_87 H locs hq9 hP hS => ?_)
        obtain ⟨rfl, m_90, K_92⟩ := hq9
        have K_96 : KM h h_87 md ad := (K').trans K_92
        refine W.eq (g2 := F0 m 40 ls []) rfl ?_
        refine lv_iinc (v := ((nI i)) + 1) (lv' := [(2, .int (((nI i)) + 1)), (1, .int (nI k)), (0, .ref md)]) hx hb d_MD_beginOne_40 hl (k := 0) rfl rfl (by decide) rfl (fun ls hl => ?_)
        refine lv_goto (tgt := 24) hx hb d_MD_beginOne_43 (by decide) ?_
        exact ih (i + 1) _ _ H locs ls (by omega) (by omega) (by rw [nI_succ]; exact hl) hP hS m_90 (shS_s hsh hki (fun r hr => cpA_at hr) (fun k r hk hr => cpA_ne hk hr)) (cpA_ne (by omega) h40) (fun k hk => by rw [cpA_o hk]; exact ho k hk) K_96
  exact loop (S.q.length - 1 - k) k _ _ _ _ ls (by omega) (Nat.le_refl _) hl hP hS m_23 (by rw [ea_17]; exact shS_0 (fun j r hj => cpA_ne (by have := (List.getElem?_eq_some_iff.mp hj).1; omega) (a16 j r hj))) (by rw [ea_17]; exact cpA_at (a16 k r9 hr9)) (fun j hj => by rw [ea_17]; exact cpA_o hj) K_24

