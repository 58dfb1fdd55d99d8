/-! THE REFERENCE: what it ends. -/
theorem endX_0 {mf : Nat → Int32} {ca : List mC} {r : mQ} (h : r.2.1 = 0) : endX mf ca r = (mf, ca) := if_pos h
theorem endX_1 {mf : Nat → Int32} {ca : List mC} {r : mQ} (h : r.2.1 = 1) : endX mf ca r = movM mf (ca.eraseP (fun d => d.1 == r.2.2.1) ++ [(r.2.2.1, r.2.2.2.2, 0)]) ((ca.eraseP (fun d => d.1 == r.2.2.1)).length + 1 - 6) := by
  unfold endX
  rw [if_neg (fun z => absurd (h.symm.trans z) (by decide)), if_pos h]
theorem endX_2 {mf : Nat → Int32} {ca : List mC} {r : mQ} (h0 : ¬ r.2.1 = 0) (h : ¬ r.2.1 = 1) : endX mf ca r = (ca.foldl updM mf, []) := by
  unfold endX movM
  rw [if_neg h0, if_neg h, List.take_length, List.drop_length]
set_option maxHeartbeats 800000 in
set_option maxRecDepth 100000 in
theorem c_MD_cache (l : Launch) (E : fh_E) (h : fh_H) (md : Nat) (ad : Nat → Nat) (sc : Nat → Int32) (ar : Nat → Nat → Int32) (hM : MDs E h md ad sc ar) (mf : Nat → Int32) (ca : List mC) (hc : cL ar ca) (hm : ∀ b, b < 256 → ar 9 b = mf b) (hn : sc 21 = nI ca.length) (h6 : ca.length ≤ 6) (hok : ∀ c ∈ ca, bOK c.1) (hnd : (ca.map (·.1)).Nodup) (b : Int32) (hbo : bOK b) (v : Int32) : fh_Met l y_MD_cache w_MD_cache ({ frames := 0, cells := 0, slots := 0, locals := 0 }) E [.ref md, .int b, .int v] h (fun r h1 => r = none ∧ ∃ sc1 ar1, MDs E h1 md ad sc1 ar1 ∧ (∀ k, k ≠ 21 → sc1 k = sc k) ∧ sc1 21 = nI (movM mf (ca.eraseP (fun d => d.1 == b) ++ [(b, v, 0)]) ((ca.eraseP (fun d => d.1 == b)).length + 1 - 6)).2.length ∧ (∀ k, k ≠ 9 → k < 22 → ar1 k = ar k) ∧ (∀ j9, j9 < 256 → ar1 9 j9 = (movM mf (ca.eraseP (fun d => d.1 == b) ++ [(b, v, 0)]) ((ca.eraseP (fun d => d.1 == b)).length + 1 - 6)).1 j9) ∧ cL ar1 (movM mf (ca.eraseP (fun d => d.1 == b) ++ [(b, v, 0)]) ((ca.eraseP (fun d => d.1 == b)).length + 1 - 6)).2 ∧ KM h h1 md ad) 0 0 := by
  refine fh_ofW (cc := b_MD_cache) (maxL := 5) (ret := none) (by decide) rfl (Nat.le_of_ble_eq_true rfl) ?_
  intro p e s m below meth c A ls hx hb hr hml hown hts hlocks hname hnoh hadm hA hK hZ hP hS hl
  have hG : ∀ w ∈ G, w.before _ s = true := fun w hw => hts w (List.mem_cons_of_mem _ hw)
  have hown : s.vm.findClass R_MD = some m.cls := hown
  have hl : lv_has ls 5 [(0, .ref md), (1, .int b), (2, .int v)] := hl
  have eF : ca.eraseP (fun d => d.1 == b) = fl b ca := ep_fl hnd
  rw [eF]
  have hfl : (fl b ca).length ≤ 6 := Nat.le_trans (List.length_filter_le _ _) h6
  have km_1 : h md = some (.inr (7, [.int (sc 0), .int (sc 1), .int (sc 2), .int (sc 3), .int (sc 4), .int (sc 5), .int (sc 6), .int (sc 7), .int (sc 8), .ref (ad 9), .int (sc 10), .ref (ad 11), .ref (ad 12), .ref (ad 13), .int (sc 14), .int (sc 15), .ref (ad 16), .ref (ad 17), .ref (ad 18), .ref (ad 19), .ref (ad 20), .int (sc 21), .ref (ad 22), .ref (ad 23), .int (sc 24), .int (sc 25), .int (sc 26), .int (sc 27), .int (sc 28)])) := hM.1
  refine lv_iconst (v := 0) hx hb d_MD_cache_0 (by decide) ?_
  refine lv_istore_n (lv' := [(3, .int 0), (0, .ref md), (1, .int b), (2, .int v)]) hx hb d_MD_cache_1 rfl hl (by decide) rfl (fun ls hl => ?_)
  refine lv_iconst (v := 0) hx hb d_MD_cache_2 (by decide) ?_
  refine lv_istore (lv' := [(4, .int 0), (3, .int 0), (0, .ref md), (1, .int b), (2, .int v)]) hx hb d_MD_cache_3 hl (by decide) rfl (fun ls hl => ?_)
  have loop : ∀ (f k : Nat) (ar' : Nat → Nat → Int32) (h' : fh_H) (H : Heap) (locs : List Loc) (ls : Array Slot), k + f = ca.length → lv_has ls 5 [(4, .int (nI k)), (3, .int (nI (fl b (ca.take k)).length)), (0, .ref md), (1, .int b), (2, .int v)] → fh_P E.1 vwCl A h' H → va_S A s.heap H locs → MDs E h' md ad sc ar' → cS ar' ca b k → (∀ k, k < 22 → ar' k = ar k) → KM h h' md ad → W p l e ({ frames := 0, cells := 0, slots := 0, locals := 0 }) s m ([.ref md, .int b, .int v] : List Value).toArray below meth c H locs 0 0 (MQ below (fh_Post E (fun r h1 => r = none ∧ ∃ sc1 ar1, MDs E h1 md ad sc1 ar1 ∧ (∀ k, k ≠ 21 → sc1 k = sc k) ∧ sc1 21 = nI (movM mf (fl b ca ++ [(b, v, 0)]) ((fl b ca).length + 1 - 6)).2.length ∧ (∀ k, k ≠ 9 → k < 22 → ar1 k = ar k) ∧ (∀ j9, j9 < 256 → ar1 9 j9 = (movM mf (fl b ca ++ [(b, v, 0)]) ((fl b ca).length + 1 - 6)).1 j9) ∧ cL ar1 (movM mf (fl b ca ++ [(b, v, 0)]) ((fl b ca).length + 1 - 6)).2 ∧ KM h h1 md ad) A) ([.ref md, .int b, .int v] : List Value).toArray s 0 0 A) (F0 m 5 ls []) := by
    intro f
    induction f with
    | zero =>
      intro k ar' h' H locs ls hkf hl hP hS hM' hcs ho K'
      have km_2 : h' md = some (.inr (7, [.int (sc 0), .int (sc 1), .int (sc 2), .int (sc 3), .int (sc 4), .int (sc 5), .int (sc 6), .int (sc 7), .int (sc 8), .ref (ad 9), .int (sc 10), .ref (ad 11), .ref (ad 12), .ref (ad 13), .int (sc 14), .int (sc 15), .ref (ad 16), .ref (ad 17), .ref (ad 18), .ref (ad 19), .ref (ad 20), .int (sc 21), .ref (ad 22), .ref (ad 23), .int (sc 24), .int (sc 25), .int (sc 26), .int (sc 27), .int (sc 28)])) := hM'.1
      have ka_3 : h' (ad 22) = some (.inl (fh_cI E, 8, .inl (ar' 22))) := hM'.2.1 22 rfl
      have ka_4 : h' (ad 23) = some (.inl (fh_cI E, 8, .inl (ar' 23))) := hM'.2.1 23 rfl
      refine lv_iload hx hb d_MD_cache_5 (lv_at hl 0 rfl) ?_
      refine lv_aload_n hx hb d_MD_cache_7 rfl (lv_at hl 2 rfl) ?_
      refine fh_get hx hb hG C_MD iG_MD hown hK hP km_2 21 (by decide) gm694 rfl d_MD_cache_8 ?_
      refine lv_icmp_ge (tgt := 60) hx hb d_MD_cache_11 (by decide) (fun c_5 => ?_) (fun c_5 => ?_)
      · skip
        have hk : k = ca.length := by omega
        subst hk
        rw [List.take_length] at hl
        refine lv_aload_n hx hb d_MD_cache_60 rfl (lv_at hl 2 rfl) ?_
        refine fh_get hx hb hG C_MD iG_MD hown hK hP km_2 22 (by decide) gm695 rfl d_MD_cache_61 ?_
        refine lv_iload_n hx hb d_MD_cache_64 rfl (lv_at hl 1 rfl) ?_
        refine lv_iload_n hx hb d_MD_cache_65 rfl (lv_at hl 3 rfl) ?_
        refine fh_iasK hx hb hK hP hS 0 ka_3 rfl (k := (fl b ca).length) (by omega) (by decide) d_MD_cache_66 (fun H locs hP hS => ?_)
        obtain ⟨h_6, eh_7⟩ : ∃ z : fh_H, z = va_up h' (ad 22) (some (.inl (fh_cI E, 8, .inl (upd (ar' 22) ((fl b ca).length) (b))))) := ⟨_, rfl⟩
        have hP : fh_P E.1 vwCl A h_6 H := by rw [eh_7]; exact hP
        obtain ⟨ar_8, ea_9⟩ : ∃ z : Nat → Nat → Int32, z = va_up ar' 22 (upd (ar' 22) ((fl b ca).length) (b)) := ⟨_, rfl⟩
        have m_10 : MDs E h_6 md ad sc ar_8 := by rw [ea_9]; exact hM'.setA 22 rfl eh_7
        have K_11 : KM h h_6 md ad := (K').trans (KM.upA 22 rfl eh_7)
        have km_12 : h_6 md = some (.inr (7, [.int (sc 0), .int (sc 1), .int (sc 2), .int (sc 3), .int (sc 4), .int (sc 5), .int (sc 6), .int (sc 7), .int (sc 8), .ref (ad 9), .int (sc 10), .ref (ad 11), .ref (ad 12), .ref (ad 13), .int (sc 14), .int (sc 15), .ref (ad 16), .ref (ad 17), .ref (ad 18), .ref (ad 19), .ref (ad 20), .int (sc 21), .ref (ad 22), .ref (ad 23), .int (sc 24), .int (sc 25), .int (sc 26), .int (sc 27), .int (sc 28)])) := m_10.1
        have ka_13 : h_6 (ad 22) = some (.inl (fh_cI E, 8, .inl (ar_8 22))) := m_10.2.1 22 rfl
        have ka_14 : h_6 (ad 23) = some (.inl (fh_cI E, 8, .inl (ar_8 23))) := m_10.2.1 23 rfl
        refine lv_aload_n hx hb d_MD_cache_67 rfl (lv_at hl 2 rfl) ?_
        refine fh_get hx hb hG C_MD iG_MD hown hK hP km_12 23 (by decide) gm696 rfl d_MD_cache_68 ?_
        refine lv_iload_n hx hb d_MD_cache_71 rfl (lv_at hl 1 rfl) ?_
        refine lv_iload_n hx hb d_MD_cache_72 rfl (lv_at hl 4 rfl) ?_
        refine fh_iasK hx hb hK hP hS 0 ka_14 rfl (k := (fl b ca).length) (by omega) (by decide) d_MD_cache_73 (fun H locs hP hS => ?_)
        obtain ⟨h_15, eh_16⟩ : ∃ z : fh_H, z = va_up h_6 (ad 23) (some (.inl (fh_cI E, 8, .inl (upd (ar_8 23) ((fl b ca).length) (v))))) := ⟨_, rfl⟩
        have hP : fh_P E.1 vwCl A h_15 H := by rw [eh_16]; exact hP
        obtain ⟨ar_17, ea_18⟩ : ∃ z : Nat → Nat → Int32, z = va_up ar_8 23 (upd (ar_8 23) ((fl b ca).length) (v)) := ⟨_, rfl⟩
        have m_19 : MDs E h_15 md ad sc ar_17 := by rw [ea_18]; exact m_10.setA 23 rfl eh_16
        have K_20 : KM h h_15 md ad := (K_11).trans (KM.upA 23 rfl eh_16)
        have km_21 : h_15 md = some (.inr (7, [.int (sc 0), .int (sc 1), .int (sc 2), .int (sc 3), .int (sc 4), .int (sc 5), .int (sc 6), .int (sc 7), .int (sc 8), .ref (ad 9), .int (sc 10), .ref (ad 11), .ref (ad 12), .ref (ad 13), .int (sc 14), .int (sc 15), .ref (ad 16), .ref (ad 17), .ref (ad 18), .ref (ad 19), .ref (ad 20), .int (sc 21), .ref (ad 22), .ref (ad 23), .int (sc 24), .int (sc 25), .int (sc 26), .int (sc 27), .int (sc 28)])) := m_19.1
        have ka_22 : h_15 (ad 22) = some (.inl (fh_cI E, 8, .inl (ar_17 22))) := m_19.2.1 22 rfl
        have ka_23 : h_15 (ad 23) = some (.inl (fh_cI E, 8, .inl (ar_17 23))) := m_19.2.1 23 rfl
        refine lv_aload_n hx hb d_MD_cache_74 rfl (lv_at hl 2 rfl) ?_
        refine lv_iload_n hx hb d_MD_cache_75 rfl (lv_at hl 1 rfl) ?_
        refine lv_iconst (v := 1) hx hb d_MD_cache_76 (by decide) ?_
        refine lv_iadd hx hb d_MD_cache_77 ?_
        refine W.eq (g2 := F0 m 78 ls [.int (nI ((fl b ca).length + 1)), .ref md]) (by rw [nI_1]) ?_
        refine fh_put hx hb hG C_MD iG_MD hown hK hP hS km_21 21 (by decide) gm694 rfl (v := .int (nI ((fl b ca).length + 1))) rfl rfl (Nat.le_of_ble_eq_true rfl) d_MD_cache_78 (fun H locs hP hS => ?_)
        obtain ⟨h_24, eh_25⟩ : ∃ z : fh_H, z = va_up h_15 md (some (.inr (7, [.int (sc 0), .int (sc 1), .int (sc 2), .int (sc 3), .int (sc 4), .int (sc 5), .int (sc 6), .int (sc 7), .int (sc 8), .ref (ad 9), .int (sc 10), .ref (ad 11), .ref (ad 12), .ref (ad 13), .int (sc 14), .int (sc 15), .ref (ad 16), .ref (ad 17), .ref (ad 18), .ref (ad 19), .ref (ad 20), .int (nI ((fl b ca).length + 1)), .ref (ad 22), .ref (ad 23), .int (sc 24), .int (sc 25), .int (sc 26), .int (sc 27), .int (sc 28)]))) := ⟨_, rfl⟩
        have hP : fh_P E.1 vwCl A h_24 H := by rw [eh_25]; exact hP
        obtain ⟨sc_26, es_27⟩ : ∃ z : Nat → Int32, z = upd sc 21 ((nI ((fl b ca).length + 1))) := ⟨_, rfl⟩
        have m_28 : MDs E h_24 md ad sc_26 ar_17 := by rw [es_27]; exact m_19.setS (by rw [eh_25]; rfl)
        have K_29 : KM h h_24 md ad := (K_20).trans (KM.upS eh_25)
        have km_30 : h_24 md = some (.inr (7, [.int (sc_26 0), .int (sc_26 1), .int (sc_26 2), .int (sc_26 3), .int (sc_26 4), .int (sc_26 5), .int (sc_26 6), .int (sc_26 7), .int (sc_26 8), .ref (ad 9), .int (sc_26 10), .ref (ad 11), .ref (ad 12), .ref (ad 13), .int (sc_26 14), .int (sc_26 15), .ref (ad 16), .ref (ad 17), .ref (ad 18), .ref (ad 19), .ref (ad 20), .int (sc_26 21), .ref (ad 22), .ref (ad 23), .int (sc_26 24), .int (sc_26 25), .int (sc_26 26), .int (sc_26 27), .int (sc_26 28)])) := m_28.1
        have ka_31 : h_24 (ad 22) = some (.inl (fh_cI E, 8, .inl (ar_17 22))) := m_28.2.1 22 rfl
        have ka_32 : h_24 (ad 23) = some (.inl (fh_cI E, 8, .inl (ar_17 23))) := m_28.2.1 23 rfl
        have eB : ar_17 = cpu ar' (fl b ca).length b v := by rw [ea_18, ea_9]; rfl
        have hy : cL ar_17 (fl b ca ++ [(b, v, 0)]) := by rw [eB]; exact cS_e hcs
        have ho3 : ∀ k, k < 22 → ar_17 k = ar k := fun j hj => by rw [eB, cpu_o hj]; exact ho j hj
        have u21 : sc_26 21 = nI ((fl b ca).length + 1) := by rw [es_27, upd_eq]
        have km_33 : h_24 md = some (.inr (7, [.int (sc_26 0), .int (sc_26 1), .int (sc_26 2), .int (sc_26 3), .int (sc_26 4), .int (sc_26 5), .int (sc_26 6), .int (sc_26 7), .int (sc_26 8), .ref (ad 9), .int (sc_26 10), .ref (ad 11), .ref (ad 12), .ref (ad 13), .int (sc_26 14), .int (sc_26 15), .ref (ad 16), .ref (ad 17), .ref (ad 18), .ref (ad 19), .ref (ad 20), .int (sc_26 21), .ref (ad 22), .ref (ad 23), .int (sc_26 24), .int (sc_26 25), .int (sc_26 26), .int (sc_26 27), .int (sc_26 28)])) := m_28.1
        have ka_34 : h_24 (ad 9) = some (.inl (fh_cI E, 256, .inl (ar_17 9))) := m_28.2.1 9 rfl
        have ka_35 : h_24 (ad 22) = some (.inl (fh_cI E, 8, .inl (ar_17 22))) := m_28.2.1 22 rfl
        have ka_36 : h_24 (ad 23) = some (.inl (fh_cI E, 8, .inl (ar_17 23))) := m_28.2.1 23 rfl
        refine lv_aload_n hx hb d_MD_cache_81 rfl (lv_at hl 2 rfl) ?_
        refine fh_get hx hb hG C_MD iG_MD hown hK hP km_33 21 (by decide) gm694 rfl d_MD_cache_82 ?_
        rw [u21]
        refine lv_bipush (v := 6) hx hb d_MD_cache_85 (by decide) ?_
        refine lv_icmp_le (tgt := 167) hx hb d_MD_cache_87 (by decide) (fun c_37 => ?_) (fun c_37 => ?_)
        · skip
          have h56 : (fl b ca).length + 1 ≤ 6 := (nI_leI (a := (fl b ca).length + 1) (b := 6) (by omega) (by decide)).mp c_37
          have eX : movM mf (fl b ca ++ [(b, v, 0)]) ((fl b ca).length + 1 - 6) = (mf, fl b ca ++ [(b, v, 0)]) := by rw [show (fl b ca).length + 1 - 6 = 0 by omega]; rfl
          exact fh_vret hx hb hr hlocks (Nat.le_of_ble_eq_true rfl) (Nat.le_of_ble_eq_true rfl) hP hS ⟨rfl, sc_26, ar_17, m_28, fun k hk => by rw [es_27, upd_ne (by omega)], by rw [u21, eX, List.length_append]; rfl, fun k _ hk => ho3 k hk, fun j hj => by rw [eX, ho3 9 (by decide)]; exact hm j hj, by rw [eX]; exact hy, K_29⟩ d_MD_cache_167
        · skip
          have h66 : (fl b ca).length = 6 := by
            by_cases z : (fl b ca).length + 1 ≤ 6
            · exact absurd (nI_le z (by decide)) c_37
            · omega
          obtain ⟨ys, eY⟩ : ∃ z, z = fl b ca ++ [(b, v, (0 : Int32))] := ⟨_, rfl⟩
          rw [← eY] at hy
          have hlen : ys.length = 7 := by rw [eY, List.length_append, h66]; rfl
          have hyok : ∀ c ∈ ys, bOK c.1 := by
            intro c hc9
            rw [eY] at hc9
            rcases List.mem_append.mp hc9 with w | w
            · exact hok c (List.mem_filter.mp w).1
            · rw [List.mem_singleton.mp w]; exact hbo
          obtain ⟨c0, t0, ey⟩ : ∃ c0 t0, ys = c0 :: t0 := by
            cases z : ys with
            | nil => rw [z] at hlen; cases hlen
            | cons a b => exact ⟨a, b, rfl⟩
          obtain ⟨g1, g2⟩ := hy 0 c0 (by rw [ey]; rfl)
          obtain ⟨n0, hn0, en0⟩ := hyok c0 (by rw [ey]; exact List.mem_cons_self)
          have eX : movM mf (fl b ca ++ [(b, v, 0)]) ((fl b ca).length + 1 - 6) = (upd mf n0 c0.2.1, t0) := by
            rw [← eY, h66, ey]
            show (upd mf c0.1.toNatClampNeg c0.2.1, t0) = _
            rw [en0, nI_clamp (by omega)]
          refine lv_aload_n hx hb d_MD_cache_90 rfl (lv_at hl 2 rfl) ?_
          refine fh_get hx hb hG C_MD iG_MD hown hK hP km_33 9 (by decide) gm682 rfl d_MD_cache_91 ?_
          refine lv_aload_n hx hb d_MD_cache_94 rfl (lv_at hl 2 rfl) ?_
          refine fh_get hx hb hG C_MD iG_MD hown hK hP km_33 22 (by decide) gm695 rfl d_MD_cache_95 ?_
          refine lv_iconst (v := 0) hx hb d_MD_cache_98 (by decide) ?_
          refine W.eq (g2 := F0 m 99 ls [.int (nI 0), .ref (ad 22), .ref (ad 9)]) (rfl) ?_
          refine fh_ialK hx hb hK hP 0 ka_35 rfl (k := 0) (by omega) (by decide) d_MD_cache_99 ?_
          rw [g1, en0]
          refine lv_aload_n hx hb d_MD_cache_100 rfl (lv_at hl 2 rfl) ?_
          refine fh_get hx hb hG C_MD iG_MD hown hK hP km_33 23 (by decide) gm696 rfl d_MD_cache_101 ?_
          refine lv_iconst (v := 0) hx hb d_MD_cache_104 (by decide) ?_
          refine W.eq (g2 := F0 m 105 ls [.int (nI 0), .ref (ad 23), .int (nI n0), .ref (ad 9)]) (rfl) ?_
          refine fh_ialK hx hb hK hP 0 ka_36 rfl (k := 0) (by omega) (by decide) d_MD_cache_105 ?_
          rw [g2]
          refine fh_iasK hx hb hK hP hS 0 ka_34 rfl (k := n0) (by omega) (by decide) d_MD_cache_106 (fun H locs hP hS => ?_)
          obtain ⟨h_38, eh_39⟩ : ∃ z : fh_H, z = va_up h_24 (ad 9) (some (.inl (fh_cI E, 256, .inl (upd (ar_17 9) n0 ((c0.2.1)))))) := ⟨_, rfl⟩
          have hP : fh_P E.1 vwCl A h_38 H := by rw [eh_39]; exact hP
          obtain ⟨ar_40, ea_41⟩ : ∃ z : Nat → Nat → Int32, z = va_up ar_17 9 (upd (ar_17 9) n0 ((c0.2.1))) := ⟨_, rfl⟩
          have m_42 : MDs E h_38 md ad sc_26 ar_40 := by rw [ea_41]; exact m_28.setA 9 rfl eh_39
          have K_43 : KM h h_38 md ad := (K_29).trans (KM.upA 9 rfl eh_39)
          have km_44 : h_38 md = some (.inr (7, [.int (sc_26 0), .int (sc_26 1), .int (sc_26 2), .int (sc_26 3), .int (sc_26 4), .int (sc_26 5), .int (sc_26 6), .int (sc_26 7), .int (sc_26 8), .ref (ad 9), .int (sc_26 10), .ref (ad 11), .ref (ad 12), .ref (ad 13), .int (sc_26 14), .int (sc_26 15), .ref (ad 16), .ref (ad 17), .ref (ad 18), .ref (ad 19), .ref (ad 20), .int (sc_26 21), .ref (ad 22), .ref (ad 23), .int (sc_26 24), .int (sc_26 25), .int (sc_26 26), .int (sc_26 27), .int (sc_26 28)])) := m_42.1
          have ka_45 : h_38 (ad 9) = some (.inl (fh_cI E, 256, .inl (ar_40 9))) := m_42.2.1 9 rfl
          have ka_46 : h_38 (ad 22) = some (.inl (fh_cI E, 8, .inl (ar_40 22))) := m_42.2.1 22 rfl
          have ka_47 : h_38 (ad 23) = some (.inl (fh_cI E, 8, .inl (ar_40 23))) := m_42.2.1 23 rfl
          refine lv_aload_n hx hb d_MD_cache_107 rfl (lv_at hl 2 rfl) ?_
          refine lv_dup hx hb d_MD_cache_108 rfl ?_
          refine fh_get hx hb hG C_MD iG_MD hown hK hP km_44 21 (by decide) gm694 rfl d_MD_cache_109 ?_
          rw [u21]
          refine lv_iconst (v := 1) hx hb d_MD_cache_112 (by decide) ?_
          refine lv_isub hx hb d_MD_cache_113 ?_
          refine W.eq (g2 := F0 m 114 ls [.int (nI (fl b ca).length), .ref md]) (by rw [nI_pred]) ?_
          refine fh_put hx hb hG C_MD iG_MD hown hK hP hS km_44 21 (by decide) gm694 rfl (v := .int (nI (fl b ca).length)) rfl rfl (Nat.le_of_ble_eq_true rfl) d_MD_cache_114 (fun H locs hP hS => ?_)
          obtain ⟨h_48, eh_49⟩ : ∃ z : fh_H, z = va_up h_38 md (some (.inr (7, [.int (sc_26 0), .int (sc_26 1), .int (sc_26 2), .int (sc_26 3), .int (sc_26 4), .int (sc_26 5), .int (sc_26 6), .int (sc_26 7), .int (sc_26 8), .ref (ad 9), .int (sc_26 10), .ref (ad 11), .ref (ad 12), .ref (ad 13), .int (sc_26 14), .int (sc_26 15), .ref (ad 16), .ref (ad 17), .ref (ad 18), .ref (ad 19), .ref (ad 20), .int (nI (fl b ca).length), .ref (ad 22), .ref (ad 23), .int (sc_26 24), .int (sc_26 25), .int (sc_26 26), .int (sc_26 27), .int (sc_26 28)]))) := ⟨_, rfl⟩
          have hP : fh_P E.1 vwCl A h_48 H := by rw [eh_49]; exact hP
          obtain ⟨sc_50, es_51⟩ : ∃ z : Nat → Int32, z = upd sc_26 21 ((nI (fl b ca).length)) := ⟨_, rfl⟩
          have m_52 : MDs E h_48 md ad sc_50 ar_40 := by rw [es_51]; exact m_42.setS (by rw [eh_49]; rfl)
          have K_53 : KM h h_48 md ad := (K_43).trans (KM.upS eh_49)
          have km_54 : h_48 md = some (.inr (7, [.int (sc_50 0), .int (sc_50 1), .int (sc_50 2), .int (sc_50 3), .int (sc_50 4), .int (sc_50 5), .int (sc_50 6), .int (sc_50 7), .int (sc_50 8), .ref (ad 9), .int (sc_50 10), .ref (ad 11), .ref (ad 12), .ref (ad 13), .int (sc_50 14), .int (sc_50 15), .ref (ad 16), .ref (ad 17), .ref (ad 18), .ref (ad 19), .ref (ad 20), .int (sc_50 21), .ref (ad 22), .ref (ad 23), .int (sc_50 24), .int (sc_50 25), .int (sc_50 26), .int (sc_50 27), .int (sc_50 28)])) := m_52.1
          have ka_55 : h_48 (ad 9) = some (.inl (fh_cI E, 256, .inl (ar_40 9))) := m_52.2.1 9 rfl
          have ka_56 : h_48 (ad 22) = some (.inl (fh_cI E, 8, .inl (ar_40 22))) := m_52.2.1 22 rfl
          have ka_57 : h_48 (ad 23) = some (.inl (fh_cI E, 8, .inl (ar_40 23))) := m_52.2.1 23 rfl
          have v21 : sc_50 21 = nI 6 := by rw [es_51, upd_eq, h66]
          refine lv_iconst (v := 0) hx hb d_MD_cache_117 (by decide) ?_
          refine lv_istore (lv' := [(4, .int 0), (3, .int (nI (fl b ca).length)), (0, .ref md), (1, .int b), (2, .int v)]) hx hb d_MD_cache_118 hl (by decide) rfl (fun ls hl => ?_)
          have loop2 : ∀ (f i : Nat) (ar2 : Nat → Nat → Int32) (h2 : fh_H) (H : Heap) (locs : List Loc) (ls : Array Slot), i + f + 1 = ys.length → lv_has ls 5 [(4, .int (nI i)), (3, .int (nI (fl b ca).length)), (0, .ref md), (1, .int b), (2, .int v)] → fh_P E.1 vwCl A h2 H → va_S A s.heap H locs → MDs E h2 md ad sc_50 ar2 → shS rC ar2 ys 0 i → (∀ k, k < 22 → ar2 k = ar_40 k) → KM h h2 md ad → W p l e ({ frames := 0, cells := 0, slots := 0, locals := 0 }) s m ([.ref md, .int b, .int v] : List Value).toArray below meth c H locs 0 0 (MQ below (fh_Post E (fun r h1 => r = none ∧ ∃ sc1 ar1, MDs E h1 md ad sc1 ar1 ∧ (∀ k, k ≠ 21 → sc1 k = sc k) ∧ sc1 21 = nI (movM mf (fl b ca ++ [(b, v, 0)]) ((fl b ca).length + 1 - 6)).2.length ∧ (∀ k, k ≠ 9 → k < 22 → ar1 k = ar k) ∧ (∀ j9, j9 < 256 → ar1 9 j9 = (movM mf (fl b ca ++ [(b, v, 0)]) ((fl b ca).length + 1 - 6)).1 j9) ∧ cL ar1 (movM mf (fl b ca ++ [(b, v, 0)]) ((fl b ca).length + 1 - 6)).2 ∧ KM h h1 md ad) A) ([.ref md, .int b, .int v] : List Value).toArray s 0 0 A) (F0 m 120 ls []) := by
            intro f
            induction f with
            | zero =>
              intro i ar2 h2 H locs ls hif hl hP hS hM2 hsh ho2 K2
              have km_58 : h2 md = some (.inr (7, [.int (sc_50 0), .int (sc_50 1), .int (sc_50 2), .int (sc_50 3), .int (sc_50 4), .int (sc_50 5), .int (sc_50 6), .int (sc_50 7), .int (sc_50 8), .ref (ad 9), .int (sc_50 10), .ref (ad 11), .ref (ad 12), .ref (ad 13), .int (sc_50 14), .int (sc_50 15), .ref (ad 16), .ref (ad 17), .ref (ad 18), .ref (ad 19), .ref (ad 20), .int (sc_50 21), .ref (ad 22), .ref (ad 23), .int (sc_50 24), .int (sc_50 25), .int (sc_50 26), .int (sc_50 27), .int (sc_50 28)])) := hM2.1
              have ka_59 : h2 (ad 22) = some (.inl (fh_cI E, 8, .inl (ar2 22))) := hM2.2.1 22 rfl
              have ka_60 : h2 (ad 23) = some (.inl (fh_cI E, 8, .inl (ar2 23))) := hM2.2.1 23 rfl
              refine lv_iload hx hb d_MD_cache_120 (lv_at hl 0 rfl) ?_
              refine lv_aload_n hx hb d_MD_cache_122 rfl (lv_at hl 2 rfl) ?_
              refine fh_get hx hb hG C_MD iG_MD hown hK hP km_58 21 (by decide) gm694 rfl d_MD_cache_123 ?_
              refine lv_icmp_ge (tgt := 167) hx hb d_MD_cache_126 (by decide) (fun c_61 => ?_) (fun c_61 => ?_)
              · skip
                exact fh_vret hx hb hr hlocks (Nat.le_of_ble_eq_true rfl) (Nat.le_of_ble_eq_true rfl) hP hS ⟨rfl, sc_50, ar2, hM2, fun k hk => by rw [es_51, upd_ne (by omega), es_27, upd_ne (by omega)], by rw [v21, eX, show t0.length = 6 by rw [ey] at hlen; exact Nat.succ.inj hlen], fun k hk1 hk2 => by rw [ho2 k hk2, ea_41, va_up_ne _ _ hk1]; exact ho3 k hk2, fun j hj => by rw [eX, ho2 9 (by decide), ea_41, va_up_self]; show upd (ar_17 9) n0 c0.2.1 j = upd mf n0 c0.2.1 j; unfold upd; rw [ho3 9 (by decide), hm j hj], by rw [eX]; have z := shS_e hsh (by omega); rw [ey] at z; exact z, K2⟩ d_MD_cache_167
              · skip
                exact absurd (show sc_50 21 ≤ nI i by rw [v21]; exact nI_le (by omega) (by omega)) c_61
            | succ f ih2 =>
              intro i ar2 h2 H locs ls hif hl hP hS hM2 hsh ho2 K2
              have km_62 : h2 md = some (.inr (7, [.int (sc_50 0), .int (sc_50 1), .int (sc_50 2), .int (sc_50 3), .int (sc_50 4), .int (sc_50 5), .int (sc_50 6), .int (sc_50 7), .int (sc_50 8), .ref (ad 9), .int (sc_50 10), .ref (ad 11), .ref (ad 12), .ref (ad 13), .int (sc_50 14), .int (sc_50 15), .ref (ad 16), .ref (ad 17), .ref (ad 18), .ref (ad 19), .ref (ad 20), .int (sc_50 21), .ref (ad 22), .ref (ad 23), .int (sc_50 24), .int (sc_50 25), .int (sc_50 26), .int (sc_50 27), .int (sc_50 28)])) := hM2.1
              have ka_63 : h2 (ad 22) = some (.inl (fh_cI E, 8, .inl (ar2 22))) := hM2.2.1 22 rfl
              have ka_64 : h2 (ad 23) = some (.inl (fh_cI E, 8, .inl (ar2 23))) := hM2.2.1 23 rfl
              refine lv_iload hx hb d_MD_cache_120 (lv_at hl 0 rfl) ?_
              refine lv_aload_n hx hb d_MD_cache_122 rfl (lv_at hl 2 rfl) ?_
              refine fh_get hx hb hG C_MD iG_MD hown hK hP km_62 21 (by decide) gm694 rfl d_MD_cache_123 ?_
              refine lv_icmp_ge (tgt := 167) hx hb d_MD_cache_126 (by decide) (fun c_65 => ?_) (fun c_65 => ?_)
              · skip
                rw [v21] at c_65
                exact absurd c_65 (nI_ge (by omega) (by decide))
              · skip
                refine lv_aload_n hx hb d_MD_cache_129 rfl (lv_at hl 2 rfl) ?_
                refine fh_get hx hb hG C_MD iG_MD hown hK hP km_62 22 (by decide) gm695 rfl d_MD_cache_130 ?_
                refine lv_iload hx hb d_MD_cache_133 (lv_at hl 0 rfl) ?_
                refine lv_aload_n hx hb d_MD_cache_135 rfl (lv_at hl 2 rfl) ?_
                refine fh_get hx hb hG C_MD iG_MD hown hK hP km_62 22 (by decide) gm695 rfl d_MD_cache_136 ?_
                refine lv_iload hx hb d_MD_cache_139 (lv_at hl 0 rfl) ?_
                refine lv_iconst (v := 1) hx hb d_MD_cache_141 (by decide) ?_
                refine lv_iadd hx hb d_MD_cache_142 ?_
                refine W.eq (g2 := F0 m 143 ls [.int (nI (i + 1)), .ref (ad 22), .int (nI i), .ref (ad 22)]) (by rw [nI_1]) ?_
                refine fh_ialK hx hb hK hP 0 ka_63 rfl (k := (i + 1)) (by omega) (by decide) d_MD_cache_143 ?_
                refine fh_iasK hx hb hK hP hS 0 ka_63 rfl (k := i) (by omega) (by decide) d_MD_cache_144 (fun H locs hP hS => ?_)
                obtain ⟨h_66, eh_67⟩ : ∃ z : fh_H, z = va_up h2 (ad 22) (some (.inl (fh_cI E, 8, .inl (upd (ar2 22) i ((ar2 22 ((i + 1)))))))) := ⟨_, rfl⟩
                have hP : fh_P E.1 vwCl A h_66 H := by rw [eh_67]; exact hP
                obtain ⟨ar_68, ea_69⟩ : ∃ z : Nat → Nat → Int32, z = va_up ar2 22 (upd (ar2 22) i ((ar2 22 ((i + 1))))) := ⟨_, rfl⟩
                have m_70 : MDs E h_66 md ad sc_50 ar_68 := by rw [ea_69]; exact hM2.setA 22 rfl eh_67
                have K_71 : KM h h_66 md ad := (K2).trans (KM.upA 22 rfl eh_67)
                have km_72 : h_66 md = some (.inr (7, [.int (sc_50 0), .int (sc_50 1), .int (sc_50 2), .int (sc_50 3), .int (sc_50 4), .int (sc_50 5), .int (sc_50 6), .int (sc_50 7), .int (sc_50 8), .ref (ad 9), .int (sc_50 10), .ref (ad 11), .ref (ad 12), .ref (ad 13), .int (sc_50 14), .int (sc_50 15), .ref (ad 16), .ref (ad 17), .ref (ad 18), .ref (ad 19), .ref (ad 20), .int (sc_50 21), .ref (ad 22), .ref (ad 23), .int (sc_50 24), .int (sc_50 25), .int (sc_50 26), .int (sc_50 27), .int (sc_50 28)])) := m_70.1
                have ka_73 : h_66 (ad 22) = some (.inl (fh_cI E, 8, .inl (ar_68 22))) := m_70.2.1 22 rfl
                have ka_74 : h_66 (ad 23) = some (.inl (fh_cI E, 8, .inl (ar_68 23))) := m_70.2.1 23 rfl
                refine lv_aload_n hx hb d_MD_cache_145 rfl (lv_at hl 2 rfl) ?_
                refine fh_get hx hb hG C_MD iG_MD hown hK hP km_72 23 (by decide) gm696 rfl d_MD_cache_146 ?_
                refine lv_iload hx hb d_MD_cache_149 (lv_at hl 0 rfl) ?_
                refine lv_aload_n hx hb d_MD_cache_151 rfl (lv_at hl 2 rfl) ?_
                refine fh_get hx hb hG C_MD iG_MD hown hK hP km_72 23 (by decide) gm696 rfl d_MD_cache_152 ?_
                refine lv_iload hx hb d_MD_cache_155 (lv_at hl 0 rfl) ?_
                refine lv_iconst (v := 1) hx hb d_MD_cache_157 (by decide) ?_
                refine lv_iadd hx hb d_MD_cache_158 ?_
                refine W.eq (g2 := F0 m 159 ls [.int (nI (i + 1)), .ref (ad 23), .int (nI i), .ref (ad 23)]) (by rw [nI_1]) ?_
                refine fh_ialK hx hb hK hP 0 ka_74 rfl (k := (i + 1)) (by omega) (by decide) d_MD_cache_159 ?_
                refine fh_iasK hx hb hK hP hS 0 ka_74 rfl (k := i) (by omega) (by decide) d_MD_cache_160 (fun H locs hP hS => ?_)
                obtain ⟨h_75, eh_76⟩ : ∃ z : fh_H, z = va_up h_66 (ad 23) (some (.inl (fh_cI E, 8, .inl (upd (ar_68 23) i ((ar_68 23 ((i + 1)))))))) := ⟨_, rfl⟩
                have hP : fh_P E.1 vwCl A h_75 H := by rw [eh_76]; exact hP
                obtain ⟨ar_77, ea_78⟩ : ∃ z : Nat → Nat → Int32, z = va_up ar_68 23 (upd (ar_68 23) i ((ar_68 23 ((i + 1))))) := ⟨_, rfl⟩
                have m_79 : MDs E h_75 md ad sc_50 ar_77 := by rw [ea_78]; exact m_70.setA 23 rfl eh_76
                have K_80 : KM h h_75 md ad := (K_71).trans (KM.upA 23 rfl eh_76)
                have km_81 : h_75 md = some (.inr (7, [.int (sc_50 0), .int (sc_50 1), .int (sc_50 2), .int (sc_50 3), .int (sc_50 4), .int (sc_50 5), .int (sc_50 6), .int (sc_50 7), .int (sc_50 8), .ref (ad 9), .int (sc_50 10), .ref (ad 11), .ref (ad 12), .ref (ad 13), .int (sc_50 14), .int (sc_50 15), .ref (ad 16), .ref (ad 17), .ref (ad 18), .ref (ad 19), .ref (ad 20), .int (sc_50 21), .ref (ad 22), .ref (ad 23), .int (sc_50 24), .int (sc_50 25), .int (sc_50 26), .int (sc_50 27), .int (sc_50 28)])) := m_79.1
                have ka_82 : h_75 (ad 22) = some (.inl (fh_cI E, 8, .inl (ar_77 22))) := m_79.2.1 22 rfl
                have ka_83 : h_75 (ad 23) = some (.inl (fh_cI E, 8, .inl (ar_77 23))) := m_79.2.1 23 rfl
                refine lv_iinc (v := ((nI i)) + 1) (lv' := [(4, .int (((nI i)) + 1)), (3, .int (nI (fl b ca).length)), (0, .ref md), (1, .int b), (2, .int v)]) hx hb d_MD_cache_161 hl (k := 0) rfl rfl (by decide) rfl (fun ls hl => ?_)
                refine lv_goto (tgt := 120) hx hb d_MD_cache_164 (by decide) ?_
                have eB : ar_77 = caA ar2 (i + 1) i := by rw [ea_78, ea_69]; rfl
                exact ih2 (i + 1) ar_77 h_75 H locs ls (by omega) (by rw [nI_succ]; exact hl) hP hS m_79 (by rw [eB]; exact shS_s hsh (Nat.zero_le _) (fun r hr => caA_at hr) (fun k r hk hr => caA_ne hk hr)) (fun j hj => by rw [eB, caA_o hj]; exact ho2 j hj) K_80
          exact loop2 6 0 _ _ _ _ ls (by omega) (by rw [nI_0]; exact hl) hP hS m_52 (by rw [ea_41]; exact shS_0 (fun k r hk => hy k r hk)) (fun j hj => rfl) K_53
      · skip
        exact absurd (show sc 21 ≤ nI k by rw [hn, show k = ca.length by omega]; exact nI_le (Nat.le_refl _) (by omega)) c_5
    | succ f ih =>
      intro k ar' h' H locs ls hkf hl hP hS hM' hcs ho K'
      have km_84 : h' md = some (.inr (7, [.int (sc 0), .int (sc 1), .int (sc 2), .int (sc 3), .int (sc 4), .int (sc 5), .int (sc 6), .int (sc 7), .int (sc 8), .ref (ad 9), .int (sc 10), .ref (ad 11), .ref (ad 12), .ref (ad 13), .int (sc 14), .int (sc 15), .ref (ad 16), .ref (ad 17), .ref (ad 18), .ref (ad 19), .ref (ad 20), .int (sc 21), .ref (ad 22), .ref (ad 23), .int (sc 24), .int (sc 25), .int (sc 26), .int (sc 27), .int (sc 28)])) := hM'.1
      have ka_85 : h' (ad 22) = some (.inl (fh_cI E, 8, .inl (ar' 22))) := hM'.2.1 22 rfl
      have ka_86 : h' (ad 23) = some (.inl (fh_cI E, 8, .inl (ar' 23))) := hM'.2.1 23 rfl
      refine lv_iload hx hb d_MD_cache_5 (lv_at hl 0 rfl) ?_
      refine lv_aload_n hx hb d_MD_cache_7 rfl (lv_at hl 2 rfl) ?_
      refine fh_get hx hb hG C_MD iG_MD hown hK hP km_84 21 (by decide) gm694 rfl d_MD_cache_8 ?_
      refine lv_icmp_ge (tgt := 60) hx hb d_MD_cache_11 (by decide) (fun c_87 => ?_) (fun c_87 => ?_)
      · skip
        rw [hn] at c_87
        exact absurd c_87 (nI_ge (by omega) (by omega))
      · skip
        obtain ⟨c9, hc9⟩ := mp_get (xs := ca) (i := k) (by omega)
        obtain ⟨g1, g2⟩ := hcs.2 k c9 (Nat.le_refl _) hc9
        have hto := @fl_le b ca k
        refine lv_aload_n hx hb d_MD_cache_14 rfl (lv_at hl 2 rfl) ?_
        refine fh_get hx hb hG C_MD iG_MD hown hK hP km_84 22 (by decide) gm695 rfl d_MD_cache_15 ?_
        refine lv_iload hx hb d_MD_cache_18 (lv_at hl 0 rfl) ?_
        refine fh_ialK hx hb hK hP 0 ka_85 rfl (k := k) (by omega) (by decide) d_MD_cache_20 ?_
        refine lv_iload_n hx hb d_MD_cache_21 rfl (lv_at hl 3 rfl) ?_
        rw [g1]
        refine lv_icmp_eq (tgt := 54) hx hb d_MD_cache_22 (by decide) (fun c_88 => ?_) (fun c_88 => ?_)
        · skip
          refine lv_iinc (v := ((nI k)) + 1) (lv' := [(4, .int (((nI k)) + 1)), (3, .int (nI (fl b (ca.take k)).length)), (0, .ref md), (1, .int b), (2, .int v)]) hx hb d_MD_cache_54 hl (k := 0) rfl rfl (by decide) rfl (fun ls hl => ?_)
          refine lv_goto (tgt := 5) hx hb d_MD_cache_57 (by decide) ?_
          exact ih (k + 1) ar' h' H locs ls (by omega) (by rw [nI_succ, fl_tk hc9, if_pos c_88]; exact hl) hP hS hM' (cS_n hcs hc9 c_88) ho K'
        · skip
          refine lv_aload_n hx hb d_MD_cache_25 rfl (lv_at hl 2 rfl) ?_
          refine fh_get hx hb hG C_MD iG_MD hown hK hP km_84 22 (by decide) gm695 rfl d_MD_cache_26 ?_
          refine lv_iload_n hx hb d_MD_cache_29 rfl (lv_at hl 1 rfl) ?_
          refine lv_aload_n hx hb d_MD_cache_30 rfl (lv_at hl 2 rfl) ?_
          refine fh_get hx hb hG C_MD iG_MD hown hK hP km_84 22 (by decide) gm695 rfl d_MD_cache_31 ?_
          refine lv_iload hx hb d_MD_cache_34 (lv_at hl 0 rfl) ?_
          refine fh_ialK hx hb hK hP 0 ka_85 rfl (k := k) (by omega) (by decide) d_MD_cache_36 ?_
          refine fh_iasK hx hb hK hP hS 0 ka_85 rfl (k := (fl b (ca.take k)).length) (by omega) (by decide) d_MD_cache_37 (fun H locs hP hS => ?_)
          obtain ⟨h_89, eh_90⟩ : ∃ z : fh_H, z = va_up h' (ad 22) (some (.inl (fh_cI E, 8, .inl (upd (ar' 22) ((fl b (ca.take k)).length) ((ar' 22 k)))))) := ⟨_, rfl⟩
          have hP : fh_P E.1 vwCl A h_89 H := by rw [eh_90]; exact hP
          obtain ⟨ar_91, ea_92⟩ : ∃ z : Nat → Nat → Int32, z = va_up ar' 22 (upd (ar' 22) ((fl b (ca.take k)).length) ((ar' 22 k))) := ⟨_, rfl⟩
          have m_93 : MDs E h_89 md ad sc ar_91 := by rw [ea_92]; exact hM'.setA 22 rfl eh_90
          have K_94 : KM h h_89 md ad := (K').trans (KM.upA 22 rfl eh_90)
          have km_95 : h_89 md = some (.inr (7, [.int (sc 0), .int (sc 1), .int (sc 2), .int (sc 3), .int (sc 4), .int (sc 5), .int (sc 6), .int (sc 7), .int (sc 8), .ref (ad 9), .int (sc 10), .ref (ad 11), .ref (ad 12), .ref (ad 13), .int (sc 14), .int (sc 15), .ref (ad 16), .ref (ad 17), .ref (ad 18), .ref (ad 19), .ref (ad 20), .int (sc 21), .ref (ad 22), .ref (ad 23), .int (sc 24), .int (sc 25), .int (sc 26), .int (sc 27), .int (sc 28)])) := m_93.1
          have ka_96 : h_89 (ad 22) = some (.inl (fh_cI E, 8, .inl (ar_91 22))) := m_93.2.1 22 rfl
          have ka_97 : h_89 (ad 23) = some (.inl (fh_cI E, 8, .inl (ar_91 23))) := m_93.2.1 23 rfl
          refine lv_aload_n hx hb d_MD_cache_38 rfl (lv_at hl 2 rfl) ?_
          refine fh_get hx hb hG C_MD iG_MD hown hK hP km_95 23 (by decide) gm696 rfl d_MD_cache_39 ?_
          refine lv_iload_n hx hb d_MD_cache_42 rfl (lv_at hl 1 rfl) ?_
          refine lv_aload_n hx hb d_MD_cache_43 rfl (lv_at hl 2 rfl) ?_
          refine fh_get hx hb hG C_MD iG_MD hown hK hP km_95 23 (by decide) gm696 rfl d_MD_cache_44 ?_
          refine lv_iload hx hb d_MD_cache_47 (lv_at hl 0 rfl) ?_
          refine fh_ialK hx hb hK hP 0 ka_97 rfl (k := k) (by omega) (by decide) d_MD_cache_49 ?_
          refine fh_iasK hx hb hK hP hS 0 ka_97 rfl (k := (fl b (ca.take k)).length) (by omega) (by decide) d_MD_cache_50 (fun H locs hP hS => ?_)
          obtain ⟨h_98, eh_99⟩ : ∃ z : fh_H, z = va_up h_89 (ad 23) (some (.inl (fh_cI E, 8, .inl (upd (ar_91 23) ((fl b (ca.take k)).length) ((ar_91 23 k)))))) := ⟨_, rfl⟩
          have hP : fh_P E.1 vwCl A h_98 H := by rw [eh_99]; exact hP
          obtain ⟨ar_100, ea_101⟩ : ∃ z : Nat → Nat → Int32, z = va_up ar_91 23 (upd (ar_91 23) ((fl b (ca.take k)).length) ((ar_91 23 k))) := ⟨_, rfl⟩
          have m_102 : MDs E h_98 md ad sc ar_100 := by rw [ea_101]; exact m_93.setA 23 rfl eh_99
          have K_103 : KM h h_98 md ad := (K_94).trans (KM.upA 23 rfl eh_99)
          have km_104 : h_98 md = some (.inr (7, [.int (sc 0), .int (sc 1), .int (sc 2), .int (sc 3), .int (sc 4), .int (sc 5), .int (sc 6), .int (sc 7), .int (sc 8), .ref (ad 9), .int (sc 10), .ref (ad 11), .ref (ad 12), .ref (ad 13), .int (sc 14), .int (sc 15), .ref (ad 16), .ref (ad 17), .ref (ad 18), .ref (ad 19), .ref (ad 20), .int (sc 21), .ref (ad 22), .ref (ad 23), .int (sc 24), .int (sc 25), .int (sc 26), .int (sc 27), .int (sc 28)])) := m_102.1
          have ka_105 : h_98 (ad 22) = some (.inl (fh_cI E, 8, .inl (ar_100 22))) := m_102.2.1 22 rfl
          have ka_106 : h_98 (ad 23) = some (.inl (fh_cI E, 8, .inl (ar_100 23))) := m_102.2.1 23 rfl
          refine lv_iinc (v := ((nI (fl b (ca.take k)).length)) + 1) (lv' := [(3, .int (((nI (fl b (ca.take k)).length)) + 1)), (4, .int (nI k)), (0, .ref md), (1, .int b), (2, .int v)]) hx hb d_MD_cache_51 hl (k := 1) rfl rfl (by decide) rfl (fun ls hl => ?_)
          refine lv_iinc (v := ((nI k)) + 1) (lv' := [(4, .int (((nI k)) + 1)), (3, .int (((nI (fl b (ca.take k)).length)) + 1)), (0, .ref md), (1, .int b), (2, .int v)]) hx hb d_MD_cache_54 hl (k := 1) rfl rfl (by decide) rfl (fun ls hl => ?_)
          refine lv_goto (tgt := 5) hx hb d_MD_cache_57 (by decide) ?_
          have eB : ar_100 = caA ar' k (fl b (ca.take k)).length := by rw [ea_101, ea_92]; rfl
          exact ih (k + 1) ar_100 h_98 H locs ls (by omega) (by rw [nI_succ, fl_tk hc9, if_neg c_88, List.length_append, List.length_singleton, nI_succ]; exact hl) hP hS m_102 (by rw [eB]; exact cS_s hcs hc9 c_88) (fun j hj => by rw [eB, caA_o hj]; exact ho j hj) K_103
  exact loop ca.length 0 _ _ _ _ ls (by omega) (by rw [nI_0]; exact hl) hP hS hM ⟨fun j c hj => (by simp [fl] at hj), fun j c _ hj => hc j c hj⟩ (fun k _ => rfl) KM.rfl

set_option maxHeartbeats 800000 in
set_option maxRecDepth 100000 in
theorem c_MD_endOne (l : Launch) (E : fh_E) (h : fh_H) (md : Nat) (ad : Nat → Nat) (sc : Nat → Int32) (ar : Nat → Nat → Int32) (hM : MDs E h md ad sc ar) (S : mS) (t : Nat) (hR : RM sc ar S) (hI : Inv S t) (r9 : mQ) (hs : S.sv = some r9) : fh_Met l y_MD_endOne w_MD_endOne ({ frames := 1, cells := 0, slots := 0, locals := 24 }) E [.ref md] h (fun r h1 => r = none ∧ ∃ sc1 ar1, MDs E h1 md ad sc1 ar1 ∧ RM sc1 ar1 (endM S) ∧ sc1 0 = sc 0 ∧ ar1 16 40 = r9.1 ∧ (r9.2.1 = 0 → sc1 28 = endW S.mf S.ca r9) ∧ KM h h1 md ad) 0 0 := by
  refine fh_ofW (cc := b_MD_endOne) (maxL := 2) (ret := none) (by decide) rfl (Nat.le_of_ble_eq_true rfl) ?_
  intro p e s m below meth c A ls hx hb hr hml hown hts hlocks hname hnoh hadm hA hK hZ hP hS hl
  have hG : ∀ w ∈ G, w.before _ s = true := fun w hw => hts w (List.mem_cons_of_mem _ hw)
  have hown : s.vm.findClass R_MD = some m.cls := hown
  have hl : lv_has ls 2 [(0, .ref md)] := hl
  have hR0 := hR
  obtain ⟨⟨a1, a2, a3, a4, a5, a6, a7, a8⟩, a9, ⟨a10, a11, a12⟩, a14, ⟨a15, a16⟩, ⟨a21, a22⟩, ⟨a24, a25⟩, a26, a27, a28⟩ := hR
  have i1 := hI.bs10
  have i2 := hI.q40
  have i3 := hI.ca6
  obtain ⟨b26, h40, b27⟩ := a27 r9 hs
  obtain ⟨hq9, -⟩ := hI.svok r9 hs
  have km_1 : h md = some (.inr (7, [.int (sc 0), .int (sc 1), .int (sc 2), .int (sc 3), .int (sc 4), .int (sc 5), .int (sc 6), .int (sc 7), .int (sc 8), .ref (ad 9), .int (sc 10), .ref (ad 11), .ref (ad 12), .ref (ad 13), .int (sc 14), .int (sc 15), .ref (ad 16), .ref (ad 17), .ref (ad 18), .ref (ad 19), .ref (ad 20), .int (sc 21), .ref (ad 22), .ref (ad 23), .int (sc 24), .int (sc 25), .int (sc 26), .int (sc 27), .int (sc 28)])) := hM.1
  have ka_2 : h (ad 17) = some (.inl (fh_cI E, 41, .inl (ar 17))) := hM.2.1 17 rfl
  have ka_3 : h (ad 18) = some (.inl (fh_cI E, 41, .inl (ar 18))) := hM.2.1 18 rfl
  have ka_4 : h (ad 19) = some (.inl (fh_cI E, 41, .inl (ar 19))) := hM.2.1 19 rfl
  have ka_5 : h (ad 9) = some (.inl (fh_cI E, 256, .inl (ar 9))) := hM.2.1 9 rfl
  have ka_6 : h (ad 22) = some (.inl (fh_cI E, 8, .inl (ar 22))) := hM.2.1 22 rfl
  have ka_7 : h (ad 23) = some (.inl (fh_cI E, 8, .inl (ar 23))) := hM.2.1 23 rfl
  refine lv_aload_n hx hb d_MD_endOne_0 rfl (lv_at hl 0 rfl) ?_
  refine lv_iconst (v := 0) hx hb d_MD_endOne_1 (by decide) ?_
  refine fh_put hx hb hG C_MD iG_MD hown hK hP hS km_1 26 (by decide) gm699 rfl (v := .int 0) rfl rfl (Nat.le_of_ble_eq_true rfl) d_MD_endOne_2 (fun H locs hP hS => ?_)
  obtain ⟨h_8, eh_9⟩ : ∃ z : fh_H, z = va_up h md (some (.inr (7, [.int (sc 0), .int (sc 1), .int (sc 2), .int (sc 3), .int (sc 4), .int (sc 5), .int (sc 6), .int (sc 7), .int (sc 8), .ref (ad 9), .int (sc 10), .ref (ad 11), .ref (ad 12), .ref (ad 13), .int (sc 14), .int (sc 15), .ref (ad 16), .ref (ad 17), .ref (ad 18), .ref (ad 19), .ref (ad 20), .int (sc 21), .ref (ad 22), .ref (ad 23), .int (sc 24), .int (sc 25), .int 0, .int (sc 27), .int (sc 28)]))) := ⟨_, rfl⟩
  have hP : fh_P E.1 vwCl A h_8 H := by rw [eh_9]; exact hP
  obtain ⟨sc_10, es_11⟩ : ∃ z : Nat → Int32, z = upd sc 26 (0) := ⟨_, rfl⟩
  have m_12 : MDs E h_8 md ad sc_10 ar := by rw [es_11]; exact hM.setS (by rw [eh_9]; rfl)
  have K_13 : KM h h_8 md ad := (KM.rfl).trans (KM.upS eh_9)
  have km_14 : h_8 md = some (.inr (7, [.int (sc_10 0), .int (sc_10 1), .int (sc_10 2), .int (sc_10 3), .int (sc_10 4), .int (sc_10 5), .int (sc_10 6), .int (sc_10 7), .int (sc_10 8), .ref (ad 9), .int (sc_10 10), .ref (ad 11), .ref (ad 12), .ref (ad 13), .int (sc_10 14), .int (sc_10 15), .ref (ad 16), .ref (ad 17), .ref (ad 18), .ref (ad 19), .ref (ad 20), .int (sc_10 21), .ref (ad 22), .ref (ad 23), .int (sc_10 24), .int (sc_10 25), .int (sc_10 26), .int (sc_10 27), .int (sc_10 28)])) := m_12.1
  have ka_15 : h_8 (ad 17) = some (.inl (fh_cI E, 41, .inl (ar 17))) := m_12.2.1 17 rfl
  have ka_16 : h_8 (ad 18) = some (.inl (fh_cI E, 41, .inl (ar 18))) := m_12.2.1 18 rfl
  have ka_17 : h_8 (ad 19) = some (.inl (fh_cI E, 41, .inl (ar 19))) := m_12.2.1 19 rfl
  have ka_18 : h_8 (ad 9) = some (.inl (fh_cI E, 256, .inl (ar 9))) := m_12.2.1 9 rfl
  have ka_19 : h_8 (ad 22) = some (.inl (fh_cI E, 8, .inl (ar 22))) := m_12.2.1 22 rfl
  have ka_20 : h_8 (ad 23) = some (.inl (fh_cI E, 8, .inl (ar 23))) := m_12.2.1 23 rfl
  refine lv_aload_n hx hb d_MD_endOne_5 rfl (lv_at hl 0 rfl) ?_
  refine lv_dup hx hb d_MD_endOne_6 rfl ?_
  refine fh_get hx hb hG C_MD iG_MD hown hK hP km_14 7 (by decide) gm680 rfl d_MD_endOne_7 ?_
  rw [show sc_10 7 = sc 7 by rw [es_11, upd_ne (by decide)]]
  refine lv_iconst (v := 1) hx hb d_MD_endOne_10 (by decide) ?_
  refine lv_iadd hx hb d_MD_endOne_11 ?_
  refine fh_put hx hb hG C_MD iG_MD hown hK hP hS km_14 7 (by decide) gm680 rfl (v := .int (((sc 7)) + 1)) rfl rfl (Nat.le_of_ble_eq_true rfl) d_MD_endOne_12 (fun H locs hP hS => ?_)
  obtain ⟨h_21, eh_22⟩ : ∃ z : fh_H, z = va_up h_8 md (some (.inr (7, [.int (sc_10 0), .int (sc_10 1), .int (sc_10 2), .int (sc_10 3), .int (sc_10 4), .int (sc_10 5), .int (sc_10 6), .int (((sc 7)) + 1), .int (sc_10 8), .ref (ad 9), .int (sc_10 10), .ref (ad 11), .ref (ad 12), .ref (ad 13), .int (sc_10 14), .int (sc_10 15), .ref (ad 16), .ref (ad 17), .ref (ad 18), .ref (ad 19), .ref (ad 20), .int (sc_10 21), .ref (ad 22), .ref (ad 23), .int (sc_10 24), .int (sc_10 25), .int (sc_10 26), .int (sc_10 27), .int (sc_10 28)]))) := ⟨_, rfl⟩
  have hP : fh_P E.1 vwCl A h_21 H := by rw [eh_22]; exact hP
  obtain ⟨sc_23, es_24⟩ : ∃ z : Nat → Int32, z = upd sc_10 7 ((((sc 7)) + 1)) := ⟨_, rfl⟩
  have m_25 : MDs E h_21 md ad sc_23 ar := by rw [es_24]; exact m_12.setS (by rw [eh_22]; rfl)
  have K_26 : KM h h_21 md ad := (K_13).trans (KM.upS eh_22)
  have km_27 : h_21 md = some (.inr (7, [.int (sc_23 0), .int (sc_23 1), .int (sc_23 2), .int (sc_23 3), .int (sc_23 4), .int (sc_23 5), .int (sc_23 6), .int (sc_23 7), .int (sc_23 8), .ref (ad 9), .int (sc_23 10), .ref (ad 11), .ref (ad 12), .ref (ad 13), .int (sc_23 14), .int (sc_23 15), .ref (ad 16), .ref (ad 17), .ref (ad 18), .ref (ad 19), .ref (ad 20), .int (sc_23 21), .ref (ad 22), .ref (ad 23), .int (sc_23 24), .int (sc_23 25), .int (sc_23 26), .int (sc_23 27), .int (sc_23 28)])) := m_25.1
  have ka_28 : h_21 (ad 17) = some (.inl (fh_cI E, 41, .inl (ar 17))) := m_25.2.1 17 rfl
  have ka_29 : h_21 (ad 18) = some (.inl (fh_cI E, 41, .inl (ar 18))) := m_25.2.1 18 rfl
  have ka_30 : h_21 (ad 19) = some (.inl (fh_cI E, 41, .inl (ar 19))) := m_25.2.1 19 rfl
  have ka_31 : h_21 (ad 9) = some (.inl (fh_cI E, 256, .inl (ar 9))) := m_25.2.1 9 rfl
  have ka_32 : h_21 (ad 22) = some (.inl (fh_cI E, 8, .inl (ar 22))) := m_25.2.1 22 rfl
  have ka_33 : h_21 (ad 23) = some (.inl (fh_cI E, 8, .inl (ar 23))) := m_25.2.1 23 rfl
  refine lv_aload_n hx hb d_MD_endOne_15 rfl (lv_at hl 0 rfl) ?_
  refine lv_aload_n hx hb d_MD_endOne_16 rfl (lv_at hl 0 rfl) ?_
  refine fh_get hx hb hG C_MD iG_MD hown hK hP km_27 27 (by decide) gm700 rfl d_MD_endOne_17 ?_
  rw [show sc_23 27 = sc 27 by rw [es_24, upd_ne (by decide), es_11, upd_ne (by decide)]]
  refine fh_put hx hb hG C_MD iG_MD hown hK hP hS km_27 1 (by decide) gm674 rfl (v := .int (sc 27)) rfl rfl (Nat.le_of_ble_eq_true rfl) d_MD_endOne_20 (fun H locs hP hS => ?_)
  obtain ⟨h_34, eh_35⟩ : ∃ z : fh_H, z = va_up h_21 md (some (.inr (7, [.int (sc_23 0), .int (sc 27), .int (sc_23 2), .int (sc_23 3), .int (sc_23 4), .int (sc_23 5), .int (sc_23 6), .int (sc_23 7), .int (sc_23 8), .ref (ad 9), .int (sc_23 10), .ref (ad 11), .ref (ad 12), .ref (ad 13), .int (sc_23 14), .int (sc_23 15), .ref (ad 16), .ref (ad 17), .ref (ad 18), .ref (ad 19), .ref (ad 20), .int (sc_23 21), .ref (ad 22), .ref (ad 23), .int (sc_23 24), .int (sc_23 25), .int (sc_23 26), .int (sc_23 27), .int (sc_23 28)]))) := ⟨_, rfl⟩
  have hP : fh_P E.1 vwCl A h_34 H := by rw [eh_35]; exact hP
  obtain ⟨sc_36, es_37⟩ : ∃ z : Nat → Int32, z = upd sc_23 1 ((sc 27)) := ⟨_, rfl⟩
  have m_38 : MDs E h_34 md ad sc_36 ar := by rw [es_37]; exact m_25.setS (by rw [eh_35]; rfl)
  have K_39 : KM h h_34 md ad := (K_26).trans (KM.upS eh_35)
  have km_40 : h_34 md = some (.inr (7, [.int (sc_36 0), .int (sc_36 1), .int (sc_36 2), .int (sc_36 3), .int (sc_36 4), .int (sc_36 5), .int (sc_36 6), .int (sc_36 7), .int (sc_36 8), .ref (ad 9), .int (sc_36 10), .ref (ad 11), .ref (ad 12), .ref (ad 13), .int (sc_36 14), .int (sc_36 15), .ref (ad 16), .ref (ad 17), .ref (ad 18), .ref (ad 19), .ref (ad 20), .int (sc_36 21), .ref (ad 22), .ref (ad 23), .int (sc_36 24), .int (sc_36 25), .int (sc_36 26), .int (sc_36 27), .int (sc_36 28)])) := m_38.1
  have ka_41 : h_34 (ad 17) = some (.inl (fh_cI E, 41, .inl (ar 17))) := m_38.2.1 17 rfl
  have ka_42 : h_34 (ad 18) = some (.inl (fh_cI E, 41, .inl (ar 18))) := m_38.2.1 18 rfl
  have ka_43 : h_34 (ad 19) = some (.inl (fh_cI E, 41, .inl (ar 19))) := m_38.2.1 19 rfl
  have ka_44 : h_34 (ad 9) = some (.inl (fh_cI E, 256, .inl (ar 9))) := m_38.2.1 9 rfl
  have ka_45 : h_34 (ad 22) = some (.inl (fh_cI E, 8, .inl (ar 22))) := m_38.2.1 22 rfl
  have ka_46 : h_34 (ad 23) = some (.inl (fh_cI E, 8, .inl (ar 23))) := m_38.2.1 23 rfl
  have u21 : sc_36 21 = nI S.ca.length := by rw [es_37, upd_ne (by decide), es_24, upd_ne (by decide), es_11, upd_ne (by decide)]; exact a21
  refine lv_aload_n hx hb d_MD_endOne_23 rfl (lv_at hl 0 rfl) ?_
  refine fh_get hx hb hG C_MD iG_MD hown hK hP km_40 17 (by decide) gm690 rfl d_MD_endOne_24 ?_
  refine lv_bipush (v := 40) hx hb d_MD_endOne_27 (by decide) ?_
  refine W.eq (g2 := F0 m 29 ls [.int (nI 40), .ref (ad 17)]) (rfl) ?_
  refine fh_ialK hx hb hK hP 0 ka_41 rfl (k := 40) (by omega) (by decide) d_MD_endOne_29 ?_
  rw [h40.2.1]
  refine lv_if_ne (tgt := 51) hx hb d_MD_endOne_30 (by decide) (fun c_47 => ?_) (fun c_47 => ?_)
  · skip
    refine lv_aload_n hx hb d_MD_endOne_51 rfl (lv_at hl 0 rfl) ?_
    refine fh_get hx hb hG C_MD iG_MD hown hK hP km_40 17 (by decide) gm690 rfl d_MD_endOne_52 ?_
    refine lv_bipush (v := 40) hx hb d_MD_endOne_55 (by decide) ?_
    refine W.eq (g2 := F0 m 57 ls [.int (nI 40), .ref (ad 17)]) (rfl) ?_
    refine fh_ialK hx hb hK hP 0 ka_41 rfl (k := 40) (by omega) (by decide) d_MD_endOne_57 ?_
    rw [h40.2.1]
    refine lv_iconst (v := 1) hx hb d_MD_endOne_58 (by decide) ?_
    refine lv_icmp_ne (tgt := 83) hx hb d_MD_endOne_59 (by decide) (fun c_48 => ?_) (fun c_48 => ?_)
    · skip
      have eX := endX_2 (mf := S.mf) (ca := S.ca) c_47 c_48
      refine lv_iconst (v := 0) hx hb d_MD_endOne_83 (by decide) ?_
      refine lv_istore_n (lv' := [(1, .int 0), (0, .ref md)]) hx hb d_MD_endOne_84 rfl hl (by decide) rfl (fun ls hl => ?_)
      have loop : ∀ (f k : Nat) (ar' : Nat → Nat → Int32) (h' : fh_H) (H : Heap) (locs : List Loc) (ls : Array Slot), k + f = S.ca.length → lv_has ls 2 [(1, .int (nI k)), (0, .ref md)] → fh_P E.1 vwCl A h' H → va_S A s.heap H locs → MDs E h' md ad sc_36 ar' → (∀ k, k ≠ 9 → ar' k = ar k) → (∀ b, b < 256 → ar' 9 b = (S.ca.take k).foldl updM S.mf b) → KM h h' md ad → W p l e ({ frames := 1, cells := 0, slots := 0, locals := 24 }) s m ([.ref md] : List Value).toArray below meth c H locs 0 0 (MQ below (fh_Post E (fun r h1 => r = none ∧ ∃ sc1 ar1, MDs E h1 md ad sc1 ar1 ∧ RM sc1 ar1 (endM S) ∧ sc1 0 = sc 0 ∧ ar1 16 40 = r9.1 ∧ (r9.2.1 = 0 → sc1 28 = endW S.mf S.ca r9) ∧ KM h h1 md ad) A) ([.ref md] : List Value).toArray s 0 0 A) (F0 m 85 ls []) := by
        intro f
        induction f with
        | zero =>
          intro k ar' h' H locs ls hkf hl hP hS hM' ho hm K'
          have km_49 : h' md = some (.inr (7, [.int (sc_36 0), .int (sc_36 1), .int (sc_36 2), .int (sc_36 3), .int (sc_36 4), .int (sc_36 5), .int (sc_36 6), .int (sc_36 7), .int (sc_36 8), .ref (ad 9), .int (sc_36 10), .ref (ad 11), .ref (ad 12), .ref (ad 13), .int (sc_36 14), .int (sc_36 15), .ref (ad 16), .ref (ad 17), .ref (ad 18), .ref (ad 19), .ref (ad 20), .int (sc_36 21), .ref (ad 22), .ref (ad 23), .int (sc_36 24), .int (sc_36 25), .int (sc_36 26), .int (sc_36 27), .int (sc_36 28)])) := hM'.1
          have ka_50 : h' (ad 9) = some (.inl (fh_cI E, 256, .inl (ar' 9))) := hM'.2.1 9 rfl
          have ka_51 : h' (ad 22) = some (.inl (fh_cI E, 8, .inl (ar' 22))) := hM'.2.1 22 rfl
          have ka_52 : h' (ad 23) = some (.inl (fh_cI E, 8, .inl (ar' 23))) := hM'.2.1 23 rfl
          refine lv_iload_n hx hb d_MD_endOne_85 rfl (lv_at hl 0 rfl) ?_
          refine lv_aload_n hx hb d_MD_endOne_86 rfl (lv_at hl 1 rfl) ?_
          refine fh_get hx hb hG C_MD iG_MD hown hK hP km_49 21 (by decide) gm694 rfl d_MD_endOne_87 ?_
          refine lv_icmp_ge (tgt := 116) hx hb d_MD_endOne_90 (by decide) (fun c_53 => ?_) (fun c_53 => ?_)
          · skip
            refine lv_aload_n hx hb d_MD_endOne_116 rfl (lv_at hl 1 rfl) ?_
            refine lv_iconst (v := 0) hx hb d_MD_endOne_117 (by decide) ?_
            refine fh_put hx hb hG C_MD iG_MD hown hK hP hS km_49 21 (by decide) gm694 rfl (v := .int 0) rfl rfl (Nat.le_of_ble_eq_true rfl) d_MD_endOne_118 (fun H locs hP hS => ?_)
            obtain ⟨h_54, eh_55⟩ : ∃ z : fh_H, z = va_up h' md (some (.inr (7, [.int (sc_36 0), .int (sc_36 1), .int (sc_36 2), .int (sc_36 3), .int (sc_36 4), .int (sc_36 5), .int (sc_36 6), .int (sc_36 7), .int (sc_36 8), .ref (ad 9), .int (sc_36 10), .ref (ad 11), .ref (ad 12), .ref (ad 13), .int (sc_36 14), .int (sc_36 15), .ref (ad 16), .ref (ad 17), .ref (ad 18), .ref (ad 19), .ref (ad 20), .int 0, .ref (ad 22), .ref (ad 23), .int (sc_36 24), .int (sc_36 25), .int (sc_36 26), .int (sc_36 27), .int (sc_36 28)]))) := ⟨_, rfl⟩
            have hP : fh_P E.1 vwCl A h_54 H := by rw [eh_55]; exact hP
            obtain ⟨sc_56, es_57⟩ : ∃ z : Nat → Int32, z = upd sc_36 21 (0) := ⟨_, rfl⟩
            have m_58 : MDs E h_54 md ad sc_56 ar' := by rw [es_57]; exact hM'.setS (by rw [eh_55]; rfl)
            have K_59 : KM h h_54 md ad := (K').trans (KM.upS eh_55)
            have km_60 : h_54 md = some (.inr (7, [.int (sc_56 0), .int (sc_56 1), .int (sc_56 2), .int (sc_56 3), .int (sc_56 4), .int (sc_56 5), .int (sc_56 6), .int (sc_56 7), .int (sc_56 8), .ref (ad 9), .int (sc_56 10), .ref (ad 11), .ref (ad 12), .ref (ad 13), .int (sc_56 14), .int (sc_56 15), .ref (ad 16), .ref (ad 17), .ref (ad 18), .ref (ad 19), .ref (ad 20), .int (sc_56 21), .ref (ad 22), .ref (ad 23), .int (sc_56 24), .int (sc_56 25), .int (sc_56 26), .int (sc_56 27), .int (sc_56 28)])) := m_58.1
            have ka_61 : h_54 (ad 9) = some (.inl (fh_cI E, 256, .inl (ar' 9))) := m_58.2.1 9 rfl
            have ka_62 : h_54 (ad 22) = some (.inl (fh_cI E, 8, .inl (ar' 22))) := m_58.2.1 22 rfl
            have ka_63 : h_54 (ad 23) = some (.inl (fh_cI E, 8, .inl (ar' 23))) := m_58.2.1 23 rfl
            have hk : k = S.ca.length := by omega
            subst hk
            rw [List.take_length] at hm
            exact fh_vret hx hb hr hlocks (Nat.le_of_ble_eq_true rfl) (Nat.le_of_ble_eq_true rfl) hP hS ⟨rfl, sc_56, ar', m_58, hR0.end hs (fun j z1 z2 z3 z4 z5 => by rw [es_57, upd_ne (by assumption), es_37, upd_ne (by assumption), es_24, upd_ne (by assumption), es_11, upd_ne (by assumption)]) (by rw [es_57, upd_ne (by decide), es_37, upd_eq]) (by rw [es_57, upd_ne (by decide), es_37, upd_ne (by decide), es_24, upd_eq]) (by rw [es_57, upd_eq, eX]; rfl) (by rw [es_57, upd_ne (by decide), es_37, upd_ne (by decide), es_24, upd_ne (by decide), es_11, upd_eq]) (fun j hj _ => ho j hj) (fun b hb => by rw [eX]; exact hm b hb) (by rw [eX]; exact fun j c hj => (by cases hj)), by rw [es_57, upd_ne (by decide), es_37, upd_ne (by decide), es_24, upd_ne (by decide), es_11, upd_ne (by decide)], by rw [ho 16 (by decide)]; exact h40.1, fun z => absurd z c_47, K_59⟩ d_MD_endOne_121
          · skip
            exact absurd (show sc_36 21 ≤ nI k by rw [u21, show k = S.ca.length by omega]; exact nI_le (Nat.le_refl _) (by omega)) c_53
        | succ f ih =>
          intro k ar' h' H locs ls hkf hl hP hS hM' ho hm K'
          have km_64 : h' md = some (.inr (7, [.int (sc_36 0), .int (sc_36 1), .int (sc_36 2), .int (sc_36 3), .int (sc_36 4), .int (sc_36 5), .int (sc_36 6), .int (sc_36 7), .int (sc_36 8), .ref (ad 9), .int (sc_36 10), .ref (ad 11), .ref (ad 12), .ref (ad 13), .int (sc_36 14), .int (sc_36 15), .ref (ad 16), .ref (ad 17), .ref (ad 18), .ref (ad 19), .ref (ad 20), .int (sc_36 21), .ref (ad 22), .ref (ad 23), .int (sc_36 24), .int (sc_36 25), .int (sc_36 26), .int (sc_36 27), .int (sc_36 28)])) := hM'.1
          have ka_65 : h' (ad 9) = some (.inl (fh_cI E, 256, .inl (ar' 9))) := hM'.2.1 9 rfl
          have ka_66 : h' (ad 22) = some (.inl (fh_cI E, 8, .inl (ar' 22))) := hM'.2.1 22 rfl
          have ka_67 : h' (ad 23) = some (.inl (fh_cI E, 8, .inl (ar' 23))) := hM'.2.1 23 rfl
          refine lv_iload_n hx hb d_MD_endOne_85 rfl (lv_at hl 0 rfl) ?_
          refine lv_aload_n hx hb d_MD_endOne_86 rfl (lv_at hl 1 rfl) ?_
          refine fh_get hx hb hG C_MD iG_MD hown hK hP km_64 21 (by decide) gm694 rfl d_MD_endOne_87 ?_
          refine lv_icmp_ge (tgt := 116) hx hb d_MD_endOne_90 (by decide) (fun c_68 => ?_) (fun c_68 => ?_)
          · skip
            rw [u21] at c_68
            exact absurd c_68 (nI_ge (by omega) (by omega))
          · skip
            obtain ⟨c9, hc9⟩ := mp_get (xs := S.ca) (i := k) (by omega)
            obtain ⟨g1, g2⟩ := a22 k c9 hc9
            obtain ⟨n0, hn0, en0⟩ := hI.caok c9 (List.mem_of_getElem? hc9)
            have g1 : ar' 22 k = nI n0 := by rw [ho 22 (by decide), g1, en0]
            have g2 : ar' 23 k = c9.2.1 := by rw [ho 23 (by decide), g2]
            refine lv_aload_n hx hb d_MD_endOne_93 rfl (lv_at hl 1 rfl) ?_
            refine fh_get hx hb hG C_MD iG_MD hown hK hP km_64 9 (by decide) gm682 rfl d_MD_endOne_94 ?_
            refine lv_aload_n hx hb d_MD_endOne_97 rfl (lv_at hl 1 rfl) ?_
            refine fh_get hx hb hG C_MD iG_MD hown hK hP km_64 22 (by decide) gm695 rfl d_MD_endOne_98 ?_
            refine lv_iload_n hx hb d_MD_endOne_101 rfl (lv_at hl 0 rfl) ?_
            refine fh_ialK hx hb hK hP 0 ka_66 rfl (k := k) (by omega) (by decide) d_MD_endOne_102 ?_
            refine lv_aload_n hx hb d_MD_endOne_103 rfl (lv_at hl 1 rfl) ?_
            refine fh_get hx hb hG C_MD iG_MD hown hK hP km_64 23 (by decide) gm696 rfl d_MD_endOne_104 ?_
            refine lv_iload_n hx hb d_MD_endOne_107 rfl (lv_at hl 0 rfl) ?_
            refine fh_ialK hx hb hK hP 0 ka_67 rfl (k := k) (by omega) (by decide) d_MD_endOne_108 ?_
            rw [g1]
            rw [g2]
            refine fh_iasK hx hb hK hP hS 0 ka_65 rfl (k := n0) (by omega) (by decide) d_MD_endOne_109 (fun H locs hP hS => ?_)
            obtain ⟨h_69, eh_70⟩ : ∃ z : fh_H, z = va_up h' (ad 9) (some (.inl (fh_cI E, 256, .inl (upd (ar' 9) n0 ((c9.2.1)))))) := ⟨_, rfl⟩
            have hP : fh_P E.1 vwCl A h_69 H := by rw [eh_70]; exact hP
            obtain ⟨ar_71, ea_72⟩ : ∃ z : Nat → Nat → Int32, z = va_up ar' 9 (upd (ar' 9) n0 ((c9.2.1))) := ⟨_, rfl⟩
            have m_73 : MDs E h_69 md ad sc_36 ar_71 := by rw [ea_72]; exact hM'.setA 9 rfl eh_70
            have K_74 : KM h h_69 md ad := (K').trans (KM.upA 9 rfl eh_70)
            have km_75 : h_69 md = some (.inr (7, [.int (sc_36 0), .int (sc_36 1), .int (sc_36 2), .int (sc_36 3), .int (sc_36 4), .int (sc_36 5), .int (sc_36 6), .int (sc_36 7), .int (sc_36 8), .ref (ad 9), .int (sc_36 10), .ref (ad 11), .ref (ad 12), .ref (ad 13), .int (sc_36 14), .int (sc_36 15), .ref (ad 16), .ref (ad 17), .ref (ad 18), .ref (ad 19), .ref (ad 20), .int (sc_36 21), .ref (ad 22), .ref (ad 23), .int (sc_36 24), .int (sc_36 25), .int (sc_36 26), .int (sc_36 27), .int (sc_36 28)])) := m_73.1
            have ka_76 : h_69 (ad 9) = some (.inl (fh_cI E, 256, .inl (ar_71 9))) := m_73.2.1 9 rfl
            have ka_77 : h_69 (ad 22) = some (.inl (fh_cI E, 8, .inl (ar_71 22))) := m_73.2.1 22 rfl
            have ka_78 : h_69 (ad 23) = some (.inl (fh_cI E, 8, .inl (ar_71 23))) := m_73.2.1 23 rfl
            refine lv_iinc (v := ((nI k)) + 1) (lv' := [(1, .int (((nI k)) + 1)), (0, .ref md)]) hx hb d_MD_endOne_110 hl (k := 0) rfl rfl (by decide) rfl (fun ls hl => ?_)
            refine lv_goto (tgt := 85) hx hb d_MD_endOne_113 (by decide) ?_
            exact ih (k + 1) ar_71 h_69 H locs ls (by omega) (by rw [nI_succ]; exact hl) hP hS m_73 (fun j hj => by rw [ea_72, va_up_ne _ _ hj]; exact ho j hj) (fun b hb => by rw [ea_72, va_up_self, fo_tk hc9]; show upd (ar' 9) n0 c9.2.1 b = upd _ c9.1.toNatClampNeg c9.2.1 b; rw [en0, nI_clamp (by omega)]; unfold upd; rw [hm b hb]) K_74
      exact loop S.ca.length 0 _ _ _ _ ls (by omega) (by rw [nI_0]; exact hl) hP hS m_38 (fun _ _ => rfl) a9 K_39
    · skip
      have bo := hq9.2 (by rw [c_48]; decide)
      refine lv_aload_n hx hb d_MD_endOne_62 rfl (lv_at hl 0 rfl) ?_
      refine lv_aload_n hx hb d_MD_endOne_63 rfl (lv_at hl 0 rfl) ?_
      refine fh_get hx hb hG C_MD iG_MD hown hK hP km_40 18 (by decide) gm691 rfl d_MD_endOne_64 ?_
      refine lv_bipush (v := 40) hx hb d_MD_endOne_67 (by decide) ?_
      refine W.eq (g2 := F0 m 69 ls [.int (nI 40), .ref (ad 18), .ref md]) (rfl) ?_
      refine fh_ialK hx hb hK hP 0 ka_42 rfl (k := 40) (by omega) (by decide) d_MD_endOne_69 ?_
      rw [h40.2.2.1]
      refine lv_aload_n hx hb d_MD_endOne_70 rfl (lv_at hl 0 rfl) ?_
      refine fh_get hx hb hG C_MD iG_MD hown hK hP km_40 19 (by decide) gm692 rfl d_MD_endOne_71 ?_
      refine lv_bipush (v := 40) hx hb d_MD_endOne_74 (by decide) ?_
      refine W.eq (g2 := F0 m 76 ls [.int (nI 40), .ref (ad 19), .int (r9.2.2.1), .ref md]) (rfl) ?_
      refine fh_ialK hx hb hK hP 0 ka_43 rfl (k := 40) (by omega) (by decide) d_MD_endOne_76 ?_
      rw [h40.2.2.2.2]
      refine fh_callV (C := R_MD) (y := y_MD_cache) (bytes := b_MD_cache) (maxL := 5) (ret := none) (index := 128) (As := [.int (r9.2.2.1), .int (r9.2.2.2.2)]) (rest := []) ⟨hx, hb, hml, hown, hG⟩ (c_MD_cache l E h_34 md ad sc_36 ar m_38 S.mf S.ca a22 a9 u21 i3 hI.caok hI.cand r9.2.2.1 bo r9.2.2.2.2) (cwV 2 hG (gV gm833 gm835 gs_MD_cache gm8 gm836) rfl rfl rfl ⟨rfl, hdy_MD_cache⟩ ⟨Nat.le_of_ble_eq_true rfl, Nat.le_of_ble_eq_true rfl⟩) C_MD.1 km_40 hK hZ hP hS hA rfl hl.1 rfl (Nat.le_of_ble_eq_true rfl) d_MD_endOne_77 ⟨Nat.le_of_ble_eq_true rfl, Nat.le_of_ble_eq_true rfl⟩ (fun r h_79 H locs hq9 hP hS => ?_)
      obtain ⟨rfl, sc_80, ar_81, m_82, hj9, hl9, ho9, hm9, hc9, K_84⟩ := hq9
      have K_88 : KM h h_79 md ad := (K_39).trans K_84
      refine W.eq (g2 := F0 m 80 ls []) rfl ?_
      refine lv_goto (tgt := 121) hx hb d_MD_endOne_80 (by decide) ?_
      have eX := endX_1 (mf := S.mf) (ca := S.ca) c_48
      rw [← eX] at hl9 hm9 hc9
      exact fh_vret hx hb hr hlocks (Nat.le_of_ble_eq_true rfl) (Nat.le_of_ble_eq_true rfl) hP hS ⟨rfl, sc_80, ar_81, m_82, hR0.end hs (fun j z1 z2 z3 z4 z5 => by rw [hj9 j z3, es_37, upd_ne (by assumption), es_24, upd_ne (by assumption), es_11, upd_ne (by assumption)]) (by rw [hj9 1 (by decide), es_37, upd_eq]) (by rw [hj9 7 (by decide), es_37, upd_ne (by decide), es_24, upd_eq]) hl9 (by rw [hj9 26 (by decide), es_37, upd_ne (by decide), es_24, upd_ne (by decide), es_11, upd_eq]) ho9 hm9 hc9, by rw [hj9 0 (by decide), es_37, upd_ne (by decide), es_24, upd_ne (by decide), es_11, upd_ne (by decide)], by rw [ho9 16 (by decide) (by decide)]; exact h40.1, fun z => absurd (c_48.symm.trans z) (by decide), K_88⟩ d_MD_endOne_121
  · skip
    obtain ⟨n9, hn9, en9⟩ := hq9.2 (by rw [c_47]; decide)
    refine lv_aload_n hx hb d_MD_endOne_33 rfl (lv_at hl 0 rfl) ?_
    refine lv_aload_n hx hb d_MD_endOne_34 rfl (lv_at hl 0 rfl) ?_
    refine lv_aload_n hx hb d_MD_endOne_35 rfl (lv_at hl 0 rfl) ?_
    refine fh_get hx hb hG C_MD iG_MD hown hK hP km_40 18 (by decide) gm691 rfl d_MD_endOne_36 ?_
    refine lv_bipush (v := 40) hx hb d_MD_endOne_39 (by decide) ?_
    refine W.eq (g2 := F0 m 41 ls [.int (nI 40), .ref (ad 18), .ref md, .ref md]) (rfl) ?_
    refine fh_ialK hx hb hK hP 0 ka_42 rfl (k := 40) (by omega) (by decide) d_MD_endOne_41 ?_
    rw [h40.2.2.1, en9]
    refine fh_callV (C := R_MD) (y := y_MD_valueAt) (bytes := b_MD_valueAt) (maxL := 4) (ret := (some .int)) (index := 122) (As := [.int (nI n9)]) (rest := [.ref md]) ⟨hx, hb, hml, hown, hG⟩ (c_MD_valueAt l E h_34 md ad sc_36 ar m_38 n9 hn9 S.ca.length u21 (by omega)) (cwV 1 hG (gV gm829 gm831 gs_MD_valueAt gm8 gm832) rfl rfl rfl ⟨rfl, hdy_MD_valueAt⟩ ⟨Nat.le_of_ble_eq_true rfl, Nat.le_of_ble_eq_true rfl⟩) C_MD.1 km_40 hK hZ hP hS hA rfl hl.1 rfl (Nat.le_of_ble_eq_true rfl) d_MD_endOne_42 ⟨Nat.le_of_ble_eq_true rfl, Nat.le_of_ble_eq_true rfl⟩ (fun r h1 H locs hq9 hP hS => ?_)
    obtain ⟨rfl, e9⟩ := hq9
    rw [e9] at hP
    refine W.eq (g2 := F0 m 45 ls [.int (lastV (ar 22) (ar 23) (nI n9) (ar 9 n9) S.ca.length), .ref md]) rfl ?_
    refine W.eq (g2 := F0 m 45 ls [.int (vinM S.mf S.ca (nI n9)), .ref md]) (by rw [lastV_vin a22 hI.cand (by omega) (a9 n9 hn9)]) ?_
    refine fh_put hx hb hG C_MD iG_MD hown hK hP hS km_40 28 (by decide) gm701 rfl (v := .int (vinM S.mf S.ca (nI n9))) rfl rfl (Nat.le_of_ble_eq_true rfl) d_MD_endOne_45 (fun H locs hP hS => ?_)
    obtain ⟨h_89, eh_90⟩ : ∃ z : fh_H, z = va_up h_34 md (some (.inr (7, [.int (sc_36 0), .int (sc_36 1), .int (sc_36 2), .int (sc_36 3), .int (sc_36 4), .int (sc_36 5), .int (sc_36 6), .int (sc_36 7), .int (sc_36 8), .ref (ad 9), .int (sc_36 10), .ref (ad 11), .ref (ad 12), .ref (ad 13), .int (sc_36 14), .int (sc_36 15), .ref (ad 16), .ref (ad 17), .ref (ad 18), .ref (ad 19), .ref (ad 20), .int (sc_36 21), .ref (ad 22), .ref (ad 23), .int (sc_36 24), .int (sc_36 25), .int (sc_36 26), .int (sc_36 27), .int (vinM S.mf S.ca (nI n9))]))) := ⟨_, rfl⟩
    have hP : fh_P E.1 vwCl A h_89 H := by rw [eh_90]; exact hP
    obtain ⟨sc_91, es_92⟩ : ∃ z : Nat → Int32, z = upd sc_36 28 ((vinM S.mf S.ca (nI n9))) := ⟨_, rfl⟩
    have m_93 : MDs E h_89 md ad sc_91 ar := by rw [es_92]; exact m_38.setS (by rw [eh_90]; rfl)
    have K_94 : KM h h_89 md ad := (K_39).trans (KM.upS eh_90)
    have km_95 : h_89 md = some (.inr (7, [.int (sc_91 0), .int (sc_91 1), .int (sc_91 2), .int (sc_91 3), .int (sc_91 4), .int (sc_91 5), .int (sc_91 6), .int (sc_91 7), .int (sc_91 8), .ref (ad 9), .int (sc_91 10), .ref (ad 11), .ref (ad 12), .ref (ad 13), .int (sc_91 14), .int (sc_91 15), .ref (ad 16), .ref (ad 17), .ref (ad 18), .ref (ad 19), .ref (ad 20), .int (sc_91 21), .ref (ad 22), .ref (ad 23), .int (sc_91 24), .int (sc_91 25), .int (sc_91 26), .int (sc_91 27), .int (sc_91 28)])) := m_93.1
    have ka_96 : h_89 (ad 17) = some (.inl (fh_cI E, 41, .inl (ar 17))) := m_93.2.1 17 rfl
    have ka_97 : h_89 (ad 18) = some (.inl (fh_cI E, 41, .inl (ar 18))) := m_93.2.1 18 rfl
    have ka_98 : h_89 (ad 19) = some (.inl (fh_cI E, 41, .inl (ar 19))) := m_93.2.1 19 rfl
    have ka_99 : h_89 (ad 9) = some (.inl (fh_cI E, 256, .inl (ar 9))) := m_93.2.1 9 rfl
    have ka_100 : h_89 (ad 22) = some (.inl (fh_cI E, 8, .inl (ar 22))) := m_93.2.1 22 rfl
    have ka_101 : h_89 (ad 23) = some (.inl (fh_cI E, 8, .inl (ar 23))) := m_93.2.1 23 rfl
    refine lv_goto (tgt := 121) hx hb d_MD_endOne_48 (by decide) ?_
    have eX := endX_0 (mf := S.mf) (ca := S.ca) c_47
    exact fh_vret hx hb hr hlocks (Nat.le_of_ble_eq_true rfl) (Nat.le_of_ble_eq_true rfl) hP hS ⟨rfl, sc_91, ar, m_93, hR0.end hs (fun j z1 z2 z3 z4 z5 => by rw [es_92, upd_ne (by assumption), es_37, upd_ne (by assumption), es_24, upd_ne (by assumption), es_11, upd_ne (by assumption)]) (by rw [es_92, upd_ne (by decide), es_37, upd_eq]) (by rw [es_92, upd_ne (by decide), es_37, upd_ne (by decide), es_24, upd_eq]) (by rw [es_92, upd_ne (by decide), es_37, upd_ne (by decide), es_24, upd_ne (by decide), es_11, upd_ne (by decide), eX]; exact a21) (by rw [es_92, upd_ne (by decide), es_37, upd_ne (by decide), es_24, upd_ne (by decide), es_11, upd_eq]) (fun _ _ _ => rfl) (fun b hb => by rw [eX]; exact a9 b hb) (by rw [eX]; exact a22), by rw [es_92, upd_ne (by decide), es_37, upd_ne (by decide), es_24, upd_ne (by decide), es_11, upd_ne (by decide)], h40.1, fun _ => by rw [es_92, upd_eq]; unfold endW; rw [if_pos c_47, en9], K_94⟩ d_MD_endOne_121

