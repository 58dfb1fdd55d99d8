/-! THE REFERENCE: sync. -/
theorem syM_n {g w : Nat} {S : mS} (h : S.bs.foldl dlM none = none) : syM g w S = (S, w) := by
  cases g with
  | zero => rfl
  | succ g =>
    show (match S.bs.foldl dlM none with | none => _ | some c => _) = _
    rw [h]
theorem syM_c {g w : Nat} {S : mS} {c : mC} (h : S.bs.foldl dlM none = some c) : syM (g + 1) w S = syM g (w + 1) (clM (wbM S c) c.1) := by
  show (match S.bs.foldl dlM none with | none => _ | some c => _) = _
  rw [h]
theorem dc_pos {c : mC} {bs : List mC} (h : c ∈ bs) (hd : ¬ c.2.2 = 0) (hn : (bs.map (·.1)).Nodup) : 1 ≤ dc bs := by
  have := dc_cl h hd hn
  omega
def dTy (bs : List mC) (b : Nat) : Prop := ∀ c ∈ bs, ¬ c.2.2 = 0 → ∃ j, b ≤ j ∧ j < 256 ∧ c.1 = nI j
theorem dTy.skip {bs : List mC} {b : Nat} (h : dTy bs b) (hb : ∀ c ∈ bs, c.1 = nI b → c.2.2 = 0) : dTy bs (b + 1) := by
  intro c hc hd
  obtain ⟨j, h1, h2, h3⟩ := h c hc hd
  have : j ≠ b := fun z => hd (hb c hc (by rw [h3, z]))
  exact ⟨j, by omega, h2, h3⟩
theorem dTy.cl {bs : List mC} {b : Nat} (h : dTy bs b) : dTy (clL bs (nI b)) (b + 1) := by
  intro c hc hd
  obtain ⟨d, hdm, e⟩ := List.mem_map.mp hc
  subst e
  by_cases z : d.1 = nI b
  · rw [if_pos z] at hd; exact absurd rfl hd
  · rw [if_neg z] at hd ⊢
    obtain ⟨j, h1, h2, h3⟩ := h d hdm hd
    have : j ≠ b := fun w => z (by rw [h3, w])
    exact ⟨j, by omega, h2, h3⟩
set_option maxHeartbeats 800000 in
set_option maxRecDepth 100000 in
theorem c_MD_sync_q (l : Launch) (E : fh_E) (h : fh_H) (md : Nat) (ad : Nat → Nat) (sc : Nat → Int32) (ar : Nat → Nat → Int32) (hM : MDs E h md ad sc ar) (S : mS) (t : Nat) (hR : RM sc ar S) (hI : Inv S t) (hbad : 40 < S.q.length + S.bs.length + 1) : fh_Met l y_MD_sync w_MD_sync ({ frames := 1, cells := 0, slots := 0, locals := 25 }) E [.ref md] h (fun r h1 => r = some (.int 0) ∧ ∃ sc1 ar1, MDs E h1 md ad sc1 ar1 ∧ RM sc1 ar1 S ∧ sc1 0 = 1 ∧ KM h h1 md ad) 0 0 := by
  refine fh_ofW (cc := b_MD_sync) (maxL := 4) (ret := (some .int)) (by decide) rfl (Nat.le_of_ble_eq_true rfl) ?_
  intro p e s m below meth c A ls hx hb hr hml hown hts hlocks hname hnoh hadm hA hK hZ hP hS hl
  have hG : ∀ w ∈ G, w.before _ s = true := fun w hw => hts w (List.mem_cons_of_mem _ hw)
  have hown : s.vm.findClass R_MD = some m.cls := hown
  have hl : lv_has ls 4 [(0, .ref md)] := hl
  have hR0 := hR
  obtain ⟨⟨a1, a2, a3, a4, a5, a6, a7, a8⟩, a9, ⟨a10, a11, a12⟩, a14, ⟨a15, a16⟩, ⟨a21, a22⟩, ⟨a24, a25⟩, a26, a27, a28⟩ := hR
  have i1 := hI.bs10
  have i2 := hI.q40
  have i3 := hI.ca6
  have km_1 : h md = some (.inr (7, [.int (sc 0), .int (sc 1), .int (sc 2), .int (sc 3), .int (sc 4), .int (sc 5), .int (sc 6), .int (sc 7), .int (sc 8), .ref (ad 9), .int (sc 10), .ref (ad 11), .ref (ad 12), .ref (ad 13), .int (sc 14), .int (sc 15), .ref (ad 16), .ref (ad 17), .ref (ad 18), .ref (ad 19), .ref (ad 20), .int (sc 21), .ref (ad 22), .ref (ad 23), .int (sc 24), .int (sc 25), .int (sc 26), .int (sc 27), .int (sc 28)])) := hM.1
  refine lv_aload_n hx hb d_MD_sync_0 rfl (lv_at hl 0 rfl) ?_
  refine lv_aload_n hx hb d_MD_sync_1 rfl (lv_at hl 0 rfl) ?_
  refine fh_get hx hb hG C_MD iG_MD hown hK hP km_1 15 (by decide) gm688 rfl d_MD_sync_2 ?_
  rw [a15]
  refine lv_aload_n hx hb d_MD_sync_5 rfl (lv_at hl 0 rfl) ?_
  refine fh_get hx hb hG C_MD iG_MD hown hK hP km_1 10 (by decide) gm683 rfl d_MD_sync_6 ?_
  rw [a10]
  refine lv_iadd hx hb d_MD_sync_9 ?_
  refine lv_iconst (v := 1) hx hb d_MD_sync_10 (by decide) ?_
  refine lv_iadd hx hb d_MD_sync_11 ?_
  refine W.eq (g2 := F0 m 12 ls [.int (nI (S.q.length + S.bs.length + 1)), .ref md]) (by rw [nI_add, nI_1]) ?_
  refine lv_bipush (v := 40) hx hb d_MD_sync_12 (by decide) ?_
  refine lv_icmp_le (tgt := 21) hx hb d_MD_sync_14 (by decide) (fun c_2 => ?_) (fun c_2 => ?_)
  · skip
    exact absurd c_2 (nI_ge (a := 40) (by omega) (by omega))
  · skip
    refine lv_iconst (v := 1) hx hb d_MD_sync_17 (by decide) ?_
    refine lv_goto (tgt := 22) hx hb d_MD_sync_18 (by decide) ?_
    refine fh_put hx hb hG C_MD iG_MD hown hK hP hS km_1 0 (by decide) gm673 rfl (v := .int 1) rfl rfl (Nat.le_of_ble_eq_true rfl) d_MD_sync_22 (fun H locs hP hS => ?_)
    obtain ⟨h_3, eh_4⟩ : ∃ z : fh_H, z = va_up h md (some (.inr (7, [.int 1, .int (sc 1), .int (sc 2), .int (sc 3), .int (sc 4), .int (sc 5), .int (sc 6), .int (sc 7), .int (sc 8), .ref (ad 9), .int (sc 10), .ref (ad 11), .ref (ad 12), .ref (ad 13), .int (sc 14), .int (sc 15), .ref (ad 16), .ref (ad 17), .ref (ad 18), .ref (ad 19), .ref (ad 20), .int (sc 21), .ref (ad 22), .ref (ad 23), .int (sc 24), .int (sc 25), .int (sc 26), .int (sc 27), .int (sc 28)]))) := ⟨_, rfl⟩
    have hP : fh_P E.1 vwCl A h_3 H := by rw [eh_4]; exact hP
    obtain ⟨sc_5, es_6⟩ : ∃ z : Nat → Int32, z = upd sc 0 (1) := ⟨_, rfl⟩
    have m_7 : MDs E h_3 md ad sc_5 ar := by rw [es_6]; exact hM.setS (by rw [eh_4]; rfl)
    have K_8 : KM h h_3 md ad := (KM.rfl).trans (KM.upS eh_4)
    have km_9 : h_3 md = some (.inr (7, [.int (sc_5 0), .int (sc_5 1), .int (sc_5 2), .int (sc_5 3), .int (sc_5 4), .int (sc_5 5), .int (sc_5 6), .int (sc_5 7), .int (sc_5 8), .ref (ad 9), .int (sc_5 10), .ref (ad 11), .ref (ad 12), .ref (ad 13), .int (sc_5 14), .int (sc_5 15), .ref (ad 16), .ref (ad 17), .ref (ad 18), .ref (ad 19), .ref (ad 20), .int (sc_5 21), .ref (ad 22), .ref (ad 23), .int (sc_5 24), .int (sc_5 25), .int (sc_5 26), .int (sc_5 27), .int (sc_5 28)])) := m_7.1
    refine lv_aload_n hx hb d_MD_sync_25 rfl (lv_at hl 0 rfl) ?_
    refine fh_get hx hb hG C_MD iG_MD hown hK hP km_9 0 (by decide) gm673 rfl d_MD_sync_26 ?_
    rw [show sc_5 0 = 1 by rw [es_6, upd_eq]]
    refine lv_if_le (tgt := 34) hx hb d_MD_sync_29 (by decide) (fun c_10 => ?_) (fun c_10 => ?_)
    · skip
      exact absurd c_10 (by decide)
    · skip
      refine lv_iconst (v := 0) hx hb d_MD_sync_32 (by decide) ?_
      exact fh_iret hx hb hr hlocks (Nat.le_of_ble_eq_true rfl) (Nat.le_of_ble_eq_true rfl) hP hS ⟨rfl, sc_5, ar, m_7, by rw [es_6]; exact hR0.code, by rw [es_6, upd_eq], K_8⟩ d_MD_sync_33

set_option maxHeartbeats 800000 in
set_option maxRecDepth 100000 in
theorem c_MD_sync (l : Launch) (E : fh_E) (h : fh_H) (md : Nat) (ad : Nat → Nat) (sc : Nat → Int32) (ar : Nat → Nat → Int32) (hM : MDs E h md ad sc ar) (S : mS) (t : Nat) (hR : RM sc ar S) (hI : Inv S t) (N : Nat) (hN : NB S N) (hN2 : N + 11 < 2 ^ 31) (hroom : S.q.length + S.bs.length + 1 ≤ 40) : fh_Met l y_MD_sync w_MD_sync ({ frames := 1, cells := 0, slots := 0, locals := 25 }) E [.ref md] h (fun r h1 => r = some (.int (nI (syM 10 0 S).2)) ∧ ∃ sc1 ar1, MDs E h1 md ad sc1 ar1 ∧ RM sc1 ar1 (addM (syM 10 0 S).1 2 (-1) 0) ∧ sc1 0 = 0 ∧ KM h h1 md ad) 0 0 := by
  refine fh_ofW (cc := b_MD_sync) (maxL := 4) (ret := (some .int)) (by decide) rfl (Nat.le_of_ble_eq_true rfl) ?_
  intro p e s m below meth c A ls hx hb hr hml hown hts hlocks hname hnoh hadm hA hK hZ hP hS hl
  have hG : ∀ w ∈ G, w.before _ s = true := fun w hw => hts w (List.mem_cons_of_mem _ hw)
  have hown : s.vm.findClass R_MD = some m.cls := hown
  have hl : lv_has ls 4 [(0, .ref md)] := hl
  have hR0 := hR
  obtain ⟨⟨a1, a2, a3, a4, a5, a6, a7, a8⟩, a9, ⟨a10, a11, a12⟩, a14, ⟨a15, a16⟩, ⟨a21, a22⟩, ⟨a24, a25⟩, a26, a27, a28⟩ := hR
  have i1 := hI.bs10
  have i2 := hI.q40
  have i3 := hI.ca6
  have km_1 : h md = some (.inr (7, [.int (sc 0), .int (sc 1), .int (sc 2), .int (sc 3), .int (sc 4), .int (sc 5), .int (sc 6), .int (sc 7), .int (sc 8), .ref (ad 9), .int (sc 10), .ref (ad 11), .ref (ad 12), .ref (ad 13), .int (sc 14), .int (sc 15), .ref (ad 16), .ref (ad 17), .ref (ad 18), .ref (ad 19), .ref (ad 20), .int (sc 21), .ref (ad 22), .ref (ad 23), .int (sc 24), .int (sc 25), .int (sc 26), .int (sc 27), .int (sc 28)])) := hM.1
  refine lv_aload_n hx hb d_MD_sync_0 rfl (lv_at hl 0 rfl) ?_
  refine lv_aload_n hx hb d_MD_sync_1 rfl (lv_at hl 0 rfl) ?_
  refine fh_get hx hb hG C_MD iG_MD hown hK hP km_1 15 (by decide) gm688 rfl d_MD_sync_2 ?_
  rw [a15]
  refine lv_aload_n hx hb d_MD_sync_5 rfl (lv_at hl 0 rfl) ?_
  refine fh_get hx hb hG C_MD iG_MD hown hK hP km_1 10 (by decide) gm683 rfl d_MD_sync_6 ?_
  rw [a10]
  refine lv_iadd hx hb d_MD_sync_9 ?_
  refine lv_iconst (v := 1) hx hb d_MD_sync_10 (by decide) ?_
  refine lv_iadd hx hb d_MD_sync_11 ?_
  refine W.eq (g2 := F0 m 12 ls [.int (nI (S.q.length + S.bs.length + 1)), .ref md]) (by rw [nI_add, nI_1]) ?_
  refine lv_bipush (v := 40) hx hb d_MD_sync_12 (by decide) ?_
  refine lv_icmp_le (tgt := 21) hx hb d_MD_sync_14 (by decide) (fun c_2 => ?_) (fun c_2 => ?_)
  · skip
    refine lv_iconst (v := 0) hx hb d_MD_sync_21 (by decide) ?_
    refine fh_put hx hb hG C_MD iG_MD hown hK hP hS km_1 0 (by decide) gm673 rfl (v := .int 0) rfl rfl (Nat.le_of_ble_eq_true rfl) d_MD_sync_22 (fun H locs hP hS => ?_)
    obtain ⟨h_3, eh_4⟩ : ∃ z : fh_H, z = va_up h md (some (.inr (7, [.int 0, .int (sc 1), .int (sc 2), .int (sc 3), .int (sc 4), .int (sc 5), .int (sc 6), .int (sc 7), .int (sc 8), .ref (ad 9), .int (sc 10), .ref (ad 11), .ref (ad 12), .ref (ad 13), .int (sc 14), .int (sc 15), .ref (ad 16), .ref (ad 17), .ref (ad 18), .ref (ad 19), .ref (ad 20), .int (sc 21), .ref (ad 22), .ref (ad 23), .int (sc 24), .int (sc 25), .int (sc 26), .int (sc 27), .int (sc 28)]))) := ⟨_, rfl⟩
    have hP : fh_P E.1 vwCl A h_3 H := by rw [eh_4]; exact hP
    obtain ⟨sc_5, es_6⟩ : ∃ z : Nat → Int32, z = upd sc 0 (0) := ⟨_, rfl⟩
    have m_7 : MDs E h_3 md ad sc_5 ar := by rw [es_6]; exact hM.setS (by rw [eh_4]; rfl)
    have K_8 : KM h h_3 md ad := (KM.rfl).trans (KM.upS eh_4)
    have km_9 : h_3 md = some (.inr (7, [.int (sc_5 0), .int (sc_5 1), .int (sc_5 2), .int (sc_5 3), .int (sc_5 4), .int (sc_5 5), .int (sc_5 6), .int (sc_5 7), .int (sc_5 8), .ref (ad 9), .int (sc_5 10), .ref (ad 11), .ref (ad 12), .ref (ad 13), .int (sc_5 14), .int (sc_5 15), .ref (ad 16), .ref (ad 17), .ref (ad 18), .ref (ad 19), .ref (ad 20), .int (sc_5 21), .ref (ad 22), .ref (ad 23), .int (sc_5 24), .int (sc_5 25), .int (sc_5 26), .int (sc_5 27), .int (sc_5 28)])) := m_7.1
    refine lv_aload_n hx hb d_MD_sync_25 rfl (lv_at hl 0 rfl) ?_
    refine fh_get hx hb hG C_MD iG_MD hown hK hP km_9 0 (by decide) gm673 rfl d_MD_sync_26 ?_
    rw [show sc_5 0 = 0 by rw [es_6, upd_eq]]
    have hR1 : RM sc_5 ar S := by rw [es_6]; exact hR0.code
    have c0 : sc_5 0 = 0 := by rw [es_6, upd_eq]
    refine lv_if_le (tgt := 34) hx hb d_MD_sync_29 (by decide) (fun c_10 => ?_) (fun c_10 => ?_)
    · skip
      refine lv_iconst (v := 0) hx hb d_MD_sync_34 (by decide) ?_
      refine lv_istore_n (lv' := [(1, .int 0), (0, .ref md)]) hx hb d_MD_sync_35 rfl hl (by decide) rfl (fun ls hl => ?_)
      refine lv_iconst (v := 0) hx hb d_MD_sync_36 (by decide) ?_
      refine lv_istore_n (lv' := [(2, .int 0), (1, .int 0), (0, .ref md)]) hx hb d_MD_sync_37 rfl hl (by decide) rfl (fun ls hl => ?_)
      have loop : ∀ (f b w g : Nat) (T : mS) (N' : Nat) (sc' : Nat → Int32) (ar' : Nat → Nat → Int32) (h' : fh_H) (H : Heap) (locs : List Loc) (ls : Array Slot), b + f = 256 → lv_has ls 4 [(2, .int (nI b)), (1, .int (nI w)), (0, .ref md)] → fh_P E.1 vwCl A h' H → va_S A s.heap H locs → MDs E h' md ad sc' ar' → RM sc' ar' T → Inv T t → NB T N' → N' ≤ N + w → T.q.length + dc T.bs + 1 ≤ 40 → dTy T.bs b → g + w = 10 → dc T.bs ≤ g → syM g w T = syM 10 0 S → sc' 0 = 0 → KM h h' md ad → W p l e ({ frames := 1, cells := 0, slots := 0, locals := 25 }) s m ([.ref md] : List Value).toArray below meth c H locs 0 0 (MQ below (fh_Post E (fun r h1 => r = some (.int (nI (syM 10 0 S).2)) ∧ ∃ sc1 ar1, MDs E h1 md ad sc1 ar1 ∧ RM sc1 ar1 (addM (syM 10 0 S).1 2 (-1) 0) ∧ sc1 0 = 0 ∧ KM h h1 md ad) A) ([.ref md] : List Value).toArray s 0 0 A) (F0 m 38 ls []) := by
        intro f
        induction f with
        | zero =>
          intro b w g T N' sc' ar' h' H locs ls hbf hl hP hS hM' hRT hIT hNT hNN hqd hdt hgw hdg hsy h0 K'
          have km_11 : h' md = some (.inr (7, [.int (sc' 0), .int (sc' 1), .int (sc' 2), .int (sc' 3), .int (sc' 4), .int (sc' 5), .int (sc' 6), .int (sc' 7), .int (sc' 8), .ref (ad 9), .int (sc' 10), .ref (ad 11), .ref (ad 12), .ref (ad 13), .int (sc' 14), .int (sc' 15), .ref (ad 16), .ref (ad 17), .ref (ad 18), .ref (ad 19), .ref (ad 20), .int (sc' 21), .ref (ad 22), .ref (ad 23), .int (sc' 24), .int (sc' 25), .int (sc' 26), .int (sc' 27), .int (sc' 28)])) := hM'.1
          have ka_12 : h' (ad 12) = some (.inl (fh_cI E, 11, .inl (ar' 12))) := hM'.2.1 12 rfl
          have ka_13 : h' (ad 13) = some (.inl (fh_cZ E, 11, .inl (ar' 13))) := hM'.2.1 13 rfl
          refine lv_iload_n hx hb d_MD_sync_38 rfl (lv_at hl 0 rfl) ?_
          refine lv_sipush (v := 256) hx hb d_MD_sync_39 (by decide) ?_
          refine lv_icmp_ge (tgt := 92) hx hb d_MD_sync_42 (by decide) (fun c_14 => ?_) (fun c_14 => ?_)
          · skip
            refine lv_aload_n hx hb d_MD_sync_92 rfl (lv_at hl 2 rfl) ?_
            refine lv_iconst (v := 2) hx hb d_MD_sync_93 (by decide) ?_
            refine lv_iconst (v := (-1)) hx hb d_MD_sync_94 (by decide) ?_
            refine lv_iconst (v := 0) hx hb d_MD_sync_95 (by decide) ?_
            have hno : T.bs.foldl dlM none = none := dl_none _ (fun c hc => by
              by_cases z : c.2.2 = 0
              · exact z
              · obtain ⟨j, j1, j2, -⟩ := hdt c hc z
                omega)
            have eM : syM 10 0 S = (T, w) := hsy.symm.trans (syM_n hno)
            refine fh_callV (C := R_MD) (y := y_MD_ask) (bytes := b_MD_ask) (maxL := 6) (ret := none) (index := 65) (As := [.int 2, .int (-1), .int 0]) (rest := []) ⟨hx, hb, hml, hown, hG⟩ (c_MD_ask l E h' md ad sc' ar' hM' T t hRT hIT N' hNT (by omega) (by omega) 2 (-1) 0 (fun _ => rfl)) (cwV 3 hG (gV gm789 gm791 gs_MD_ask gm8 gm792) rfl rfl rfl ⟨rfl, hdy_MD_ask⟩ ⟨Nat.le_of_ble_eq_true rfl, Nat.le_of_ble_eq_true rfl⟩) C_MD.1 km_11 hK hZ hP hS hA rfl hl.1 rfl (Nat.le_of_ble_eq_true rfl) d_MD_sync_96 ⟨Nat.le_of_ble_eq_true rfl, Nat.le_of_ble_eq_true rfl⟩ (fun r h_15 H locs hq9 hP hS => ?_)
            obtain ⟨rfl, sc_16, ar_17, m_18, R_19, c_21, K_20⟩ := hq9
            have K_24 : KM h h_15 md ad := (K').trans K_20
            refine W.eq (g2 := F0 m 99 ls []) rfl ?_
            refine lv_iload_n hx hb d_MD_sync_99 rfl (lv_at hl 1 rfl) ?_
            exact fh_iret hx hb hr hlocks (Nat.le_of_ble_eq_true rfl) (Nat.le_of_ble_eq_true rfl) hP hS ⟨by rw [eM], sc_16, ar_17, m_18, by rw [eM]; exact (show askM T 2 (-1) 0 = addM T 2 (-1) 0 from if_neg (by decide)) ▸ R_19, c_21.trans h0, K_24⟩ d_MD_sync_100
          · skip
            exact absurd (show (256 : Int32) ≤ nI b by rw [show b = 256 by omega]; decide) c_14
        | succ f ih =>
          intro b w g T N' sc' ar' h' H locs ls hbf hl hP hS hM' hRT hIT hNT hNN hqd hdt hgw hdg hsy h0 K'
          have km_25 : h' md = some (.inr (7, [.int (sc' 0), .int (sc' 1), .int (sc' 2), .int (sc' 3), .int (sc' 4), .int (sc' 5), .int (sc' 6), .int (sc' 7), .int (sc' 8), .ref (ad 9), .int (sc' 10), .ref (ad 11), .ref (ad 12), .ref (ad 13), .int (sc' 14), .int (sc' 15), .ref (ad 16), .ref (ad 17), .ref (ad 18), .ref (ad 19), .ref (ad 20), .int (sc' 21), .ref (ad 22), .ref (ad 23), .int (sc' 24), .int (sc' 25), .int (sc' 26), .int (sc' 27), .int (sc' 28)])) := hM'.1
          have ka_26 : h' (ad 12) = some (.inl (fh_cI E, 11, .inl (ar' 12))) := hM'.2.1 12 rfl
          have ka_27 : h' (ad 13) = some (.inl (fh_cZ E, 11, .inl (ar' 13))) := hM'.2.1 13 rfl
          refine lv_iload_n hx hb d_MD_sync_38 rfl (lv_at hl 0 rfl) ?_
          refine lv_sipush (v := 256) hx hb d_MD_sync_39 (by decide) ?_
          refine lv_icmp_ge (tgt := 92) hx hb d_MD_sync_42 (by decide) (fun c_28 => ?_) (fun c_28 => ?_)
          · skip
            exact absurd c_28 (nI_ge (b := 256) (by omega) (by decide))
          · skip
            refine lv_aload_n hx hb d_MD_sync_45 rfl (lv_at hl 2 rfl) ?_
            refine lv_iload_n hx hb d_MD_sync_46 rfl (lv_at hl 0 rfl) ?_
            obtain ⟨b10, b11, b12⟩ := hRT.2.2.1
            have ib := hIT.bs10
            refine fh_callV (C := R_MD) (y := y_MD_bufferOf) (bytes := b_MD_bufferOf) (maxL := 4) (ret := (some .int)) (index := 134) (As := [.int (nI b)]) (rest := []) ⟨hx, hb, hml, hown, hG⟩ (c_MD_bufferOf l E h' md ad sc' ar' hM' (nI b) T.bs.length b10 (by omega)) (cwV 1 hG (gV gm773 gm775 gs_MD_bufferOf gm8 gm776) rfl rfl rfl ⟨rfl, hdy_MD_bufferOf⟩ ⟨Nat.le_of_ble_eq_true rfl, Nat.le_of_ble_eq_true rfl⟩) C_MD.1 km_25 hK hZ hP hS hA rfl hl.1 rfl (Nat.le_of_ble_eq_true rfl) d_MD_sync_47 ⟨Nat.le_of_ble_eq_true rfl, Nat.le_of_ble_eq_true rfl⟩ (fun r h1 H locs hq9 hP hS => ?_)
            obtain ⟨rfl, e9⟩ := hq9
            rw [e9] at hP
            refine W.eq (g2 := F0 m 50 ls [.int (lastI (ar' 11) (nI b) T.bs.length)]) rfl ?_
            rcases lastI_bf (S := T) (b := nI b) b11 hIT.bsnd with ⟨hb9, e9⟩ | ⟨j, c9, hj, hc9, hb9, e9⟩
            · skip
              refine W.eq (g2 := F0 m 50 ls [.int (-1)]) (by rw [e9]) ?_
              refine lv_istore_n (lv' := [(3, .int (-1)), (2, .int (nI b)), (1, .int (nI w)), (0, .ref md)]) hx hb d_MD_sync_50 rfl hl (by decide) rfl (fun ls hl => ?_)
              refine lv_iload_n hx hb d_MD_sync_51 rfl (lv_at hl 0 rfl) ?_
              refine lv_if_lt (tgt := 86) hx hb d_MD_sync_52 (by decide) (fun c_29 => ?_) (fun c_29 => ?_)
              · skip
                refine lv_iinc (v := ((nI b)) + 1) (lv' := [(2, .int (((nI b)) + 1)), (3, .int (-1)), (1, .int (nI w)), (0, .ref md)]) hx hb d_MD_sync_86 hl (k := 1) rfl rfl (by decide) rfl (fun ls hl => ?_)
                refine lv_goto (tgt := 38) hx hb d_MD_sync_89 (by decide) ?_
                exact ih (b + 1) w g T N' sc' ar' h' H locs ls (by omega) (by rw [nI_succ]; exact lv_sub hl [0, 2, 3] rfl) hP hS hM' hRT hIT hNT hNN hqd (hdt.skip (fun c hc z => absurd (beq_iff_eq.mpr z) (List.find?_eq_none.mp hb9 c hc))) hgw hdg hsy h0 K'
              · skip
                exact absurd (show (-1 : Int32) < 0 by decide) c_29
            · skip
              refine W.eq (g2 := F0 m 50 ls [.int (nI j)]) (by rw [e9]) ?_
              refine lv_istore_n (lv' := [(3, .int (nI j)), (2, .int (nI b)), (1, .int (nI w)), (0, .ref md)]) hx hb d_MD_sync_50 rfl hl (by decide) rfl (fun ls hl => ?_)
              refine lv_iload_n hx hb d_MD_sync_51 rfl (lv_at hl 0 rfl) ?_
              have hjl := (List.getElem?_eq_some_iff.mp hj).1
              have hjm := List.mem_of_getElem? hj
              obtain ⟨g1, g2, g3⟩ := b11 j c9 hj
              refine lv_if_lt (tgt := 86) hx hb d_MD_sync_52 (by decide) (fun c_30 => ?_) (fun c_30 => ?_)
              · skip
                exact absurd c_30 (nI_pos (by omega))
              · skip
                refine lv_aload_n hx hb d_MD_sync_55 rfl (lv_at hl 3 rfl) ?_
                refine fh_get hx hb hG C_MD iG_MD hown hK hP km_25 13 (by decide) gm686 rfl d_MD_sync_56 ?_
                refine lv_iload_n hx hb d_MD_sync_59 rfl (lv_at hl 0 rfl) ?_
                refine fh_zalK hx hb hK hP 3 ka_27 rfl (k := j) (by omega) (by decide) d_MD_sync_60 ?_
                rw [g3]
                refine lv_if_eq (tgt := 86) hx hb d_MD_sync_61 (by decide) (fun c_31 => ?_) (fun c_31 => ?_)
                · skip
                  refine lv_iinc (v := ((nI b)) + 1) (lv' := [(2, .int (((nI b)) + 1)), (3, .int (nI j)), (1, .int (nI w)), (0, .ref md)]) hx hb d_MD_sync_86 hl (k := 1) rfl rfl (by decide) rfl (fun ls hl => ?_)
                  refine lv_goto (tgt := 38) hx hb d_MD_sync_89 (by decide) ?_
                  exact ih (b + 1) w g T N' sc' ar' h' H locs ls (by omega) (by rw [nI_succ]; exact lv_sub hl [0, 2, 3] rfl) hP hS hM' hRT hIT hNT hNN hqd (hdt.skip (fun c hc z => by rw [inj_nd hIT.bsnd c hc c9 hjm (z.trans hc9.symm)]; exact c_31)) hgw hdg hsy h0 K'
                · skip
                  refine lv_aload_n hx hb d_MD_sync_64 rfl (lv_at hl 3 rfl) ?_
                  refine lv_iconst (v := 1) hx hb d_MD_sync_65 (by decide) ?_
                  refine lv_iload_n hx hb d_MD_sync_66 rfl (lv_at hl 1 rfl) ?_
                  refine lv_aload_n hx hb d_MD_sync_67 rfl (lv_at hl 3 rfl) ?_
                  refine fh_get hx hb hG C_MD iG_MD hown hK hP km_25 12 (by decide) gm685 rfl d_MD_sync_68 ?_
                  refine lv_iload_n hx hb d_MD_sync_71 rfl (lv_at hl 0 rfl) ?_
                  refine fh_ialK hx hb hK hP 0 ka_26 rfl (k := j) (by omega) (by decide) d_MD_sync_72 ?_
                  rw [g2]
                  refine fh_callV (C := R_MD) (y := y_MD_ask) (bytes := b_MD_ask) (maxL := 6) (ret := none) (index := 65) (As := [.int 1, .int (nI b), .int (c9.2.1)]) (rest := []) ⟨hx, hb, hml, hown, hG⟩ (c_MD_ask l E h' md ad sc' ar' hM' T t hRT hIT N' hNT (by omega) (by omega) 1 (nI b) c9.2.1 (fun z => absurd rfl z)) (cwV 3 hG (gV gm789 gm791 gs_MD_ask gm8 gm792) rfl rfl rfl ⟨rfl, hdy_MD_ask⟩ ⟨Nat.le_of_ble_eq_true rfl, Nat.le_of_ble_eq_true rfl⟩) C_MD.1 km_25 hK hZ hP hS hA rfl hl.1 rfl (Nat.le_of_ble_eq_true rfl) d_MD_sync_73 ⟨Nat.le_of_ble_eq_true rfl, Nat.le_of_ble_eq_true rfl⟩ (fun r h_32 H locs hq9 hP hS => ?_)
                  obtain ⟨rfl, sc_33, ar_34, m_35, R_36, c_38, K_37⟩ := hq9
                  have K_41 : KM h h_32 md ad := (K').trans K_37
                  refine W.eq (g2 := F0 m 76 ls []) rfl ?_
                  have eW : askM T 1 (nI b) c9.2.1 = wbM T c9 := by rw [← hc9]; rfl
                  rw [eW] at R_36
                  have km_42 : h_32 md = some (.inr (7, [.int (sc_33 0), .int (sc_33 1), .int (sc_33 2), .int (sc_33 3), .int (sc_33 4), .int (sc_33 5), .int (sc_33 6), .int (sc_33 7), .int (sc_33 8), .ref (ad 9), .int (sc_33 10), .ref (ad 11), .ref (ad 12), .ref (ad 13), .int (sc_33 14), .int (sc_33 15), .ref (ad 16), .ref (ad 17), .ref (ad 18), .ref (ad 19), .ref (ad 20), .int (sc_33 21), .ref (ad 22), .ref (ad 23), .int (sc_33 24), .int (sc_33 25), .int (sc_33 26), .int (sc_33 27), .int (sc_33 28)])) := m_35.1
                  have ka_43 : h_32 (ad 13) = some (.inl (fh_cZ E, 11, .inl (ar_34 13))) := m_35.2.1 13 rfl
                  refine lv_aload_n hx hb d_MD_sync_76 rfl (lv_at hl 3 rfl) ?_
                  refine fh_get hx hb hG C_MD iG_MD hown hK hP km_42 13 (by decide) gm686 rfl d_MD_sync_77 ?_
                  refine lv_iload_n hx hb d_MD_sync_80 rfl (lv_at hl 0 rfl) ?_
                  refine lv_iconst (v := 0) hx hb d_MD_sync_81 (by decide) ?_
                  refine fh_zasK hx hb hK hP hS 3 ka_43 rfl (k := j) (by omega) (by decide) (rfl) d_MD_sync_82 (fun H locs hP hS => ?_)
                  obtain ⟨h_44, eh_45⟩ : ∃ z : fh_H, z = va_up h_32 (ad 13) (some (.inl (fh_cZ E, 11, .inl (upd (ar_34 13) j (0))))) := ⟨_, rfl⟩
                  have hP : fh_P E.1 vwCl A h_44 H := by rw [eh_45]; exact hP
                  obtain ⟨ar_46, ea_47⟩ : ∃ z : Nat → Nat → Int32, z = va_up ar_34 13 (upd (ar_34 13) j (0)) := ⟨_, rfl⟩
                  have m_48 : MDs E h_44 md ad sc_33 ar_46 := by rw [ea_47]; exact m_35.setA 13 rfl eh_45
                  have K_49 : KM h h_44 md ad := (K_41).trans (KM.upA 13 rfl eh_45)
                  have km_50 : h_44 md = some (.inr (7, [.int (sc_33 0), .int (sc_33 1), .int (sc_33 2), .int (sc_33 3), .int (sc_33 4), .int (sc_33 5), .int (sc_33 6), .int (sc_33 7), .int (sc_33 8), .ref (ad 9), .int (sc_33 10), .ref (ad 11), .ref (ad 12), .ref (ad 13), .int (sc_33 14), .int (sc_33 15), .ref (ad 16), .ref (ad 17), .ref (ad 18), .ref (ad 19), .ref (ad 20), .int (sc_33 21), .ref (ad 22), .ref (ad 23), .int (sc_33 24), .int (sc_33 25), .int (sc_33 26), .int (sc_33 27), .int (sc_33 28)])) := m_48.1
                  have ka_51 : h_44 (ad 13) = some (.inl (fh_cZ E, 11, .inl (ar_46 13))) := m_48.2.1 13 rfl
                  refine lv_iinc (v := ((nI w)) + 1) (lv' := [(1, .int (((nI w)) + 1)), (3, .int (nI j)), (2, .int (nI b)), (0, .ref md)]) hx hb d_MD_sync_83 hl (k := 2) rfl rfl (by decide) rfl (fun ls hl => ?_)
                  refine lv_iinc (v := ((nI b)) + 1) (lv' := [(2, .int (((nI b)) + 1)), (1, .int (((nI w)) + 1)), (3, .int (nI j)), (0, .ref md)]) hx hb d_MD_sync_86 hl (k := 2) rfl rfl (by decide) rfl (fun ls hl => ?_)
                  refine lv_goto (tgt := 38) hx hb d_MD_sync_89 (by decide) ?_
                  have hb1 := dc_cl hjm c_31 hIT.bsnd
                  have hfo : T.bs.foldl dlM none = some c9 := dl_some (b := b) T.bs none hdt hIT.bsnd (by omega) (Or.inl ⟨rfl, hjm⟩) hc9 c_31
                  have hq1 := wb_q T c9
                  obtain ⟨N3, hN3, hNW, -⟩ := hNT.wb (c := c9)
                  obtain ⟨g', rfl⟩ : ∃ g', g = g' + 1 := ⟨g - 1, by have := dc_pos hjm c_31 hIT.bsnd; omega⟩
                  have ebs : (wbM T c9).bs = T.bs := wb_bs T c9
                  have hdc : dc (clL (wbM T c9).bs c9.1) + 1 = dc T.bs := by rw [ebs]; exact hb1
                  have hIW : Inv (wbM T c9) t := hIT.wb (hIT.bsok c9 hjm) (by omega)
                  have hRC : RM sc_33 ar_46 (clM (wbM T c9) c9.1) := by
                    have z := R_36.2.2.1
                    refine RM.bs (S := wbM T c9) R_36 (by unfold clL; rw [List.length_map]; exact z.1) (fun _ _ => rfl) (fun k hk => by rw [ea_47, va_up_ne _ _ (by omega)]) ?_ (bZ_cl z.2.2)
                    rw [ea_47]
                    exact bL_cl z.2.1 hIW.bsnd (by rw [ebs]; exact hj) rfl
                  exact ih (b + 1) (w + 1) g' (clM (wbM T c9) c9.1) N3 sc_33 ar_46 h_44 H locs ls (by omega) (by rw [nI_succ, nI_succ]; exact lv_sub hl [0, 1, 3] rfl) hP hS m_48 hRC hIW.cl hNW.cl (by omega) (by show (wbM T c9).q.length + dc (clL (wbM T c9).bs c9.1) + 1 ≤ 40; omega) (by show dTy (clL (wbM T c9).bs c9.1) (b + 1); rw [ebs, hc9]; exact hdt.cl) (by omega) (by show dc (clL (wbM T c9).bs c9.1) ≤ g'; omega) ((syM_c hfo).symm.trans hsy) (c_38.trans h0) K_49
      exact loop 256 0 0 10 S N _ _ _ _ _ ls (by omega) (by rw [nI_0]; exact hl) hP hS m_7 hR1 hI hN (by omega) (by have := dc_le S.bs; omega) (fun c hc _ => by obtain ⟨j, j1, j2⟩ := hI.bsok c hc; exact ⟨j, Nat.zero_le _, j1, j2⟩) rfl (by have := dc_le S.bs; omega) rfl c0 K_8
    · skip
      exact absurd (show (0 : Int32) ≤ 0 by decide) c_10
  · skip
    exact absurd (nI_le (b := 40) (by omega) (by decide)) c_2

