/-! THE DISK: the beginning of a request, time that passes. -/
def absJ (x : Int32) : Int32 := if 0 ≤ x then x else 0 - x
def begU (r : mQ) (n : Nat) (hd : Int32) : Int32 := if r.2.1 = 2 then nI n + 1 else absJ (r.2.2.1 / 8 - hd) + 2
def begH (r : mQ) (hd : Int32) : Int32 := if r.2.1 = 2 then hd else r.2.2.1 / 8
theorem nd_erase {α : Type} {xs : List (Nat × α)} {k : Nat} {r : Nat × α} (hn : (xs.map (·.1)).Nodup) (h : xs[k]? = some r) : r.1 ∉ (xs.eraseIdx k).map (·.1) ∧ ((xs.eraseIdx k).map (·.1)).Nodup := by
  have hk := mp_at h
  rw [← er_map]
  refine ⟨fun hm => ?_, hn.sublist (List.eraseIdx_sublist ..)⟩
  obtain ⟨j, hj⟩ := List.getElem?_of_mem hm
  rw [List.getElem?_eraseIdx] at hj
  split at hj
  · have := (List.getElem?_inj (List.getElem?_eq_some_iff.mp hk).1 hn).mp (hk.trans hj.symm)
    omega
  · have := (List.getElem?_inj (List.getElem?_eq_some_iff.mp hk).1 hn).mp (hk.trans hj.symm)
    omega
theorem er_mem {α : Type} {xs : List α} {k : Nat} {x : α} (h : x ∈ xs.eraseIdx k) : x ∈ xs := List.mem_of_mem_eraseIdx h

set_option maxHeartbeats 4000000 in
set_option maxRecDepth 100000 in
theorem c_DK_beginIfIdle_busy (l : Launch) (E : fh_E) (h : fh_H) (dk qu med cs : Nat) (a9 : Nat) (ul tm hd up wy sd il : Int32) (hd0 : h dk = some (.inr (5, [.ref qu, .ref med, .ref cs, .ref a9, .int ul, .int tm, .int hd, .int up, .int wy, .int sd, .int il])))  : fh_Met l y_DK_beginIfIdle w_DK_beginIfIdle ({ frames := 6, cells := 0, slots := 0, locals := 136 }) E [.ref dk] h (fun r h1 => r = none ∧ h1 = h) 0 0 := by
  refine fh_ofW (cc := b_DK_beginIfIdle) (maxL := 3) (ret := none) (by decide) rfl (Nat.le_of_ble_eq_true rfl) ?_
  intro p e s m below meth c A ls hx hb hr hml hown hts hlocks hname hnoh hadm hA hK hZ hP hS hl
  have hG : ∀ w ∈ G, w.before _ s = true := fun w hw => hts w (List.mem_cons_of_mem _ hw)
  have hown : s.vm.findClass R_DK = some m.cls := hown
  have hl : lv_has ls 3 [(0, .ref dk)] := hl
  refine lv_aload_n hx hb d_DK_beginIfIdle_0 rfl (lv_at hl 0 rfl) ?_
  refine fh_get hx hb hG C_DK iG_DK hown hK hP hd0 3 (by decide) gm92 rfl d_DK_beginIfIdle_1 ?_
  refine lv_ifnull hx hb d_DK_beginIfIdle_4 ?_
  exact fh_vret hx hb hr hlocks (Nat.le_of_ble_eq_true rfl) (Nat.le_of_ble_eq_true rfl) hP hS ⟨rfl, rfl⟩ d_DK_beginIfIdle_7

set_option maxHeartbeats 4000000 in
set_option maxRecDepth 100000 in
theorem c_DK_beginIfIdle_nil (l : Launch) (E : fh_E) (h : fh_H) (dk qu med cs : Nat)  (ul tm hd up wy sd il : Int32) (hd0 : h dk = some (.inr (5, [.ref qu, .ref med, .ref cs, .null, .int ul, .int tm, .int hd, .int up, .int wy, .int sd, .int il]))) (qal qarr : Nat) (hQ : QLs E h qu qal qarr []) : fh_Met l y_DK_beginIfIdle w_DK_beginIfIdle ({ frames := 6, cells := 0, slots := 0, locals := 136 }) E [.ref dk] h (fun r h1 => r = none ∧ h1 = h) 0 0 := by
  refine fh_ofW (cc := b_DK_beginIfIdle) (maxL := 3) (ret := none) (by decide) rfl (Nat.le_of_ble_eq_true rfl) ?_
  intro p e s m below meth c A ls hx hb hr hml hown hts hlocks hname hnoh hadm hA hK hZ hP hS hl
  have hG : ∀ w ∈ G, w.before _ s = true := fun w hw => hts w (List.mem_cons_of_mem _ hw)
  have hown : s.vm.findClass R_DK = some m.cls := hown
  have hl : lv_has ls 3 [(0, .ref dk)] := hl
  have kq := hQ.1
  refine lv_aload_n hx hb d_DK_beginIfIdle_0 rfl (lv_at hl 0 rfl) ?_
  refine fh_get hx hb hG C_DK iG_DK hown hK hP hd0 3 (by decide) gm92 rfl d_DK_beginIfIdle_1 ?_
  refine lv_ifnullN (tgt := 8) hx hb d_DK_beginIfIdle_4 (by decide) ?_
  refine lv_aload_n hx hb d_DK_beginIfIdle_8 rfl (lv_at hl 0 rfl) ?_
  refine fh_get hx hb hG C_DK iG_DK hown hK hP hd0 0 (by decide) gm87 rfl d_DK_beginIfIdle_9 ?_
  refine lv_aload_n hx hb d_DK_beginIfIdle_12 rfl (lv_at hl 0 rfl) ?_
  refine fh_callV (C := R_DK) (y := y_DK_chosenPlace) (bytes := b_DK_chosenPlace) (maxL := 3) (ret := (some .int)) (index := 98) (As := []) (rest := [.ref qu]) ⟨hx, hb, hml, hown, hG⟩ (c_DK_chosenPlace_nil l E h dk qu med cs .null ul tm hd up wy sd il hd0 qal qarr hQ) (cwV 0 hG (gV gm176 gm178 gs_DK_chosenPlace gm6 gm179) rfl rfl rfl ⟨rfl, hdy_DK_chosenPlace⟩ ⟨Nat.le_of_ble_eq_true rfl, Nat.le_of_ble_eq_true rfl⟩) C_DK.1 hd0 hK hZ hP hS hA rfl hl.1 rfl (Nat.le_of_ble_eq_true rfl) d_DK_beginIfIdle_13 ⟨Nat.le_of_ble_eq_true rfl, Nat.le_of_ble_eq_true rfl⟩ (fun r h1 H locs hq9 hP hS => ?_)
  obtain ⟨rfl, e9⟩ := hq9
  rw [e9] at hP
  refine W.eq (g2 := F0 m 16 ls [.int (-1), .ref qu]) rfl ?_
  refine fh_callV (C := R_QU) (y := y_QU_take) (bytes := b_QU_take) (maxL := 2) (ret := (some (.object "BlockLayer$Request"))) (index := 101) (As := [.int (-1)]) (rest := []) ⟨hx, hb, hml, hown, hG⟩ (c_QU_take_m1 l E h qu) (cwV 1 hG (gV gm225 gm226 gm227 gm7 gm228) rfl rfl rfl ⟨rfl, hdy_QU_take⟩ ⟨Nat.le_of_ble_eq_true rfl, Nat.le_of_ble_eq_true rfl⟩) C_QU.1 kq hK hZ hP hS hA rfl hl.1 rfl (Nat.le_of_ble_eq_true rfl) d_DK_beginIfIdle_16 ⟨Nat.le_of_ble_eq_true rfl, Nat.le_of_ble_eq_true rfl⟩ (fun r h1 H locs hq9 hP hS => ?_)
  obtain ⟨rfl, e9⟩ := hq9
  rw [e9] at hP
  refine W.eq (g2 := F0 m 19 ls [.null]) rfl ?_
  refine lv_astore_nN (lv' := [(1, .null), (0, .ref dk)]) hx hb d_DK_beginIfIdle_19 rfl hl (by decide) rfl (fun ls hl => ?_)
  refine lv_aload_nN hx hb d_DK_beginIfIdle_20 rfl (lv_at hl 0 rfl) ?_
  refine lv_ifnonnullN hx hb d_DK_beginIfIdle_21 ?_
  exact fh_vret hx hb hr hlocks (Nat.le_of_ble_eq_true rfl) (Nat.le_of_ble_eq_true rfl) hP hS ⟨rfl, rfl⟩ d_DK_beginIfIdle_24

set_option maxHeartbeats 4000000 in
set_option maxRecDepth 100000 in
theorem c_DK_beginIfIdle_go (l : Launch) (E : fh_E) (h : fh_H) (dk qu qal qarr med cs cal carr : Nat) (rqs : List tQ) (mf : Nat → Int32) (cps : List tC) (r9 : tQ) (k : Nat) (ul tm hd up wy sd il : Int32) (hD : DKs E h dk qu qal qarr med cs cal carr rqs mf cps none ul tm hd up wy sd il) (hq41 : rqs.length ≤ 41) (hc6 : cps.length ≤ 6) (hk : (chs (rqs.map (·.2)) tm hd up wy).1 = some k) (hrk : rqs[k]? = some r9) : fh_Met l y_DK_beginIfIdle w_DK_beginIfIdle ({ frames := 6, cells := 0, slots := 0, locals := 136 }) E [.ref dk] h (fun r h1 => r = none ∧ DKs E h1 dk qu qal qarr med cs cal carr (rqs.eraseIdx k) mf cps (some r9) (begU r9.2 cps.length hd) tm (begH r9.2 hd) ((chs (rqs.map (·.2)) tm hd up wy).2) wy sd il ∧ Fr h h1 (fun b => b = dk ∨ b = qal ∨ b = qarr) ∧ Dm h h1) 0 0 := by
  refine fh_ofW (cc := b_DK_beginIfIdle) (maxL := 3) (ret := none) (by decide) rfl (Nat.le_of_ble_eq_true rfl) ?_
  intro p e s m below meth c A ls hx hb hr hml hown hts hlocks hname hnoh hadm hA hK hZ hP hS hl
  have hG : ∀ w ∈ G, w.before _ s = true := fun w hw => hts w (List.mem_cons_of_mem _ hw)
  have hown : s.vm.findClass R_DK = some m.cls := hown
  have hl : lv_has ls 3 [(0, .ref dk)] := hl
  obtain ⟨hd0, hQ, hm, hC, hsv, hnd, hqc, hqa⟩ := hD
  have hed := hZ.edn hP
  obtain ⟨md, hal⟩ := hC.2.1.al
  obtain ⟨mdq, haq⟩ := hQ.2.1.al
  have hcs := hC.1
  have hqu := hQ.1
  have hr9 := hQ.2.2 r9 (List.mem_of_getElem? hrk)
  obtain ⟨r0, t, hrt⟩ : ∃ r0 t, rqs = r0 :: t := by
    rcases rqs with _ | ⟨r0, t⟩
    · simp at hrk
    · exact ⟨r0, t, rfl⟩
  have hd0 : h dk = some (.inr (5, [.ref qu, .ref med, .ref cs, .null, .int ul, .int tm, .int hd, .int up, .int wy, .int sd, .int il])) := hd0
  refine lv_aload_n hx hb d_DK_beginIfIdle_0 rfl (lv_at hl 0 rfl) ?_
  refine fh_get hx hb hG C_DK iG_DK hown hK hP hd0 3 (by decide) gm92 rfl d_DK_beginIfIdle_1 ?_
  refine lv_ifnullN (tgt := 8) hx hb d_DK_beginIfIdle_4 (by decide) ?_
  refine lv_aload_n hx hb d_DK_beginIfIdle_8 rfl (lv_at hl 0 rfl) ?_
  refine fh_get hx hb hG C_DK iG_DK hown hK hP hd0 0 (by decide) gm87 rfl d_DK_beginIfIdle_9 ?_
  refine lv_aload_n hx hb d_DK_beginIfIdle_12 rfl (lv_at hl 0 rfl) ?_
  refine fh_callV (C := R_DK) (y := y_DK_chosenPlace) (bytes := b_DK_chosenPlace) (maxL := 3) (ret := (some .int)) (index := 98) (As := []) (rest := [.ref qu]) ⟨hx, hb, hml, hown, hG⟩ (c_DK_chosenPlace l E h dk qu med cs .null ul tm hd up wy sd il hd0 qal qarr r0 t (by rw [← hrt]; exact hQ) (by rw [← hrt]; omega)) (cwV 0 hG (gV gm176 gm178 gs_DK_chosenPlace gm6 gm179) rfl rfl rfl ⟨rfl, hdy_DK_chosenPlace⟩ ⟨Nat.le_of_ble_eq_true rfl, Nat.le_of_ble_eq_true rfl⟩) C_DK.1 hd0 hK hZ hP hS hA rfl hl.1 rfl (Nat.le_of_ble_eq_true rfl) d_DK_beginIfIdle_13 ⟨Nat.le_of_ble_eq_true rfl, Nat.le_of_ble_eq_true rfl⟩ (fun r h1 H locs hq9 hP hS => ?_)
  rw [← hrt] at hq9
  obtain ⟨rfl, e9⟩ := hq9
  rw [e9] at hP
  refine W.eq (g2 := F0 m 16 ls [.int (pl (chs (rqs.map (·.2)) tm hd up wy).1), .ref qu]) rfl ?_
  obtain ⟨h_1, eh_2⟩ : ∃ z : fh_H, z = va_up h dk (some (.inr (5, [.ref qu, .ref med, .ref cs, .null, .int ul, .int tm, .int hd, .int (chs (rqs.map (·.2)) tm hd up wy).2, .int wy, .int sd, .int il]))) := ⟨_, rfl⟩
  have hP : fh_P E.1 vwCl A h_1 H := by rw [eh_2]; exact hP
  have k_3 : h_1 qu = some (.inr (4, [.ref qal])) := by rw [eh_2]; exact fh_up hqu (fh_ne hqu hd0 (by decide))
  have k_4 : h_1 cs = some (.inr (2, [.ref cal])) := by rw [eh_2]; exact fh_up hcs (fh_ne hcs hd0 (by decide))
  have k_5 : h_1 r9.1 = some (.inr (3, [.int r9.2.1, .int r9.2.2.1, .int r9.2.2.2.1, .int r9.2.2.2.2.1, .int r9.2.2.2.2.2, .int 0])) := by rw [eh_2]; exact fh_up hr9 (fh_ne hr9 hd0 (by decide))
  have k_6 : h_1 med = some (.inl (fh_cI E, 256, .inl mf)) := by rw [eh_2]; exact fh_up hm (fh_neA hm hd0)
  have k_7 : h_1 dk = some (.inr (5, [.ref qu, .ref med, .ref cs, .null, .int ul, .int tm, .int hd, .int (chs (rqs.map (·.2)) tm hd up wy).2, .int wy, .int sd, .int il])) := by rw [eh_2]; exact va_up_self _ _ _
  refine W.eq (g2 := F0 m 16 ls [.int (nI k), .ref qu]) (by rw [hk]; rfl) ?_
  have hQ1 : QLs E h_1 qu qal qarr rqs := hQ.up5 hd0 eh_2
  have hC1 : CLs E h_1 cs cal carr cps := hC.up5 hd0 eh_2
  have ed1 := hZ.edn hP
  obtain ⟨mdq1, haq1⟩ := hQ1.2.1.al
  refine fh_callV (C := R_QU) (y := y_QU_take) (bytes := b_QU_take) (maxL := 2) (ret := (some (.object "BlockLayer$Request"))) (index := 101) (As := [.int (nI k)]) (rest := []) ⟨hx, hb, hml, hown, hG⟩ (c_QU_take_at l E h_1 qu qal qarr rqs hQ1 (by omega) k r9 hrk) (cwV 1 hG (gV gm225 gm226 gm227 gm7 gm228) rfl rfl rfl ⟨rfl, hdy_QU_take⟩ ⟨Nat.le_of_ble_eq_true rfl, Nat.le_of_ble_eq_true rfl⟩) C_QU.1 k_3 hK hZ hP hS hA rfl hl.1 rfl (Nat.le_of_ble_eq_true rfl) d_DK_beginIfIdle_16 ⟨Nat.le_of_ble_eq_true rfl, Nat.le_of_ble_eq_true rfl⟩ (fun r h1 H locs hq9 hP hS => ?_)
  obtain ⟨rfl, g1, g2⟩ := hq9
  refine W.eq (g2 := F0 m 19 ls [.ref r9.1]) rfl ?_
  have hia1 := hQ1.2.1.isArr ed1
  have nn : ∀ (a i : Nat) (fs : List Value), h_1 a = some (.inr (i, fs)) → i ≠ 0 → h1 a = some (.inr (i, fs)) := fun a i fs ha hi => fr_obj g2 haq1 hia1 ha hi
  have kd2 := nn dk _ _ k_7 (by decide)
  have kr2 := nn r9.1 _ _ k_5 (by decide)
  have kcs2 := nn cs _ _ k_4 (by decide)
  have km2 : h1 med = some (.inl (fh_cI E, 256, .inl mf)) := (g2 med (fh_neA k_6 haq1) (hQ1.2.1.neI ed1 k_6)).trans k_6
  have kq2 := g1.1
  have ed2 := hZ.edn hP
  have F2 : Fr h_1 h1 (fun b => b = qal ∨ b = qarr) := fun b e hb n => (g2 b (fun z => n (Or.inl z)) (fun z => n (Or.inr z))).trans hb
  obtain ⟨md1, hal1⟩ := hC1.2.1.al
  have hC2 : CLs E h1 cs cal carr cps := hC1.keep F2 (by rintro (z | z); exact fh_ne hC1.1 haq1 (by decide) z; exact hQ1.2.1.neO ed1 hC1.1 z) (by rintro (z | z); exact hqc z.symm; exact hQ1.2.1.neO ed1 hal1 z) (fun e he => by rintro (z | z); exact hC1.2.1.neO ed1 haq1 z.symm; exact (hqa e (by rw [← z, ← he, eh_2, va_up_ne _ _ (Ne.symm (hC.2.1.neO hed hd0))])) z.symm) (fun c hc => by rintro (z | z); exact fh_ne (hC1.2.2 c hc) haq1 (by decide) z; exact hQ1.2.1.neO ed1 (hC1.2.2 c hc) z)
  obtain ⟨nE1, nE2⟩ := nd_erase hnd hrk
  have D2 : Dm h h1 := (dm_up eh_2).trans (dm_li g2 g1.2.1 ed1)
  refine lv_astore_n (lv' := [(1, .ref r9.1), (0, .ref dk)]) hx hb d_DK_beginIfIdle_19 rfl hl (by decide) rfl (fun ls hl => ?_)
  refine lv_aload_n hx hb d_DK_beginIfIdle_20 rfl (lv_at hl 0 rfl) ?_
  refine lv_ifnonnull (tgt := 25) hx hb d_DK_beginIfIdle_21 (by decide) ?_
  refine lv_aload_n hx hb d_DK_beginIfIdle_25 rfl (lv_at hl 0 rfl) ?_
  refine fh_get hx hb hG C_RQ iG_RQ hown hK hP kr2 1 (by decide) gm556 rfl d_DK_beginIfIdle_26 ?_
  refine lv_iconst (v := 2) hx hb d_DK_beginIfIdle_29 (by decide) ?_
  refine lv_icmp_ne (tgt := 49) hx hb d_DK_beginIfIdle_30 (by decide) (fun c_8 => ?_) (fun c_8 => ?_)
  · skip
    refine lv_aload_n hx hb d_DK_beginIfIdle_49 rfl (lv_at hl 0 rfl) ?_
    refine fh_get hx hb hG C_RQ iG_RQ hown hK hP kr2 2 (by decide) gm560 rfl d_DK_beginIfIdle_50 ?_
    refine fh_callSN (y := y_BL_trackOf) (bytes := b_BL_trackOf) (maxL := 1) (ret := (some .int)) (index := 106) (host := "BlockLayer") (As := [.int r9.2.2.2.1]) (rest := []) ⟨hx, hb, hml, hown, hG⟩ (c_BL_trackOf l E h1 r9.2.2.2.1) ⟨va_cnB 1 hG (gB gm217) rfl rfl rfl (fhN hZ (.methodLinkNest "BlockLayer$Disk" 106 y_BL_trackOf "BlockLayer") (by simp [fhNest])) (hG _ gm1) hdy_BL_trackOf ⟨Nat.le_of_ble_eq_true rfl, Nat.le_of_ble_eq_true rfl⟩, hG _ gm216, trivial⟩ hK hZ hP hS hA rfl hl.1 rfl (Nat.le_of_ble_eq_true rfl) d_DK_beginIfIdle_53 ⟨Nat.le_of_ble_eq_true rfl, Nat.le_of_ble_eq_true rfl⟩ (fun r h2 H locs hq9 hP hS => ?_)
    obtain ⟨rfl, e9⟩ := hq9
    rw [e9] at hP
    refine W.eq (g2 := F0 m 56 ls [.int (r9.2.2.2.1 / 8)]) rfl ?_
    refine lv_istore_n (lv' := [(2, .int (r9.2.2.2.1 / 8)), (1, .ref r9.1), (0, .ref dk)]) hx hb d_DK_beginIfIdle_56 rfl hl (by decide) rfl (fun ls hl => ?_)
    refine lv_aload_n hx hb d_DK_beginIfIdle_57 rfl (lv_at hl 2 rfl) ?_
    refine lv_iload_n hx hb d_DK_beginIfIdle_58 rfl (lv_at hl 0 rfl) ?_
    refine lv_aload_n hx hb d_DK_beginIfIdle_59 rfl (lv_at hl 2 rfl) ?_
    refine fh_get hx hb hG C_DK iG_DK hown hK hP kd2 6 (by decide) gm97 rfl d_DK_beginIfIdle_60 ?_
    refine lv_isub hx hb d_DK_beginIfIdle_63 ?_
    refine va_mabs hx hb (hml.trans hl.1.symm) hown (hG _ gm222) (hG _ gm223) (hG _ gm19) (hG _ gm224) (Nat.le_of_ble_eq_true rfl) (Nat.le_of_ble_eq_true rfl) (Nat.le_of_ble_eq_true rfl) (Nat.le_of_ble_eq_true rfl) d_DK_beginIfIdle_64 ?_
    refine W.eq (g2 := F0 m 67 ls [.int (absJ (r9.2.2.2.1 / 8 - hd)), .ref dk]) (rfl) ?_
    refine lv_iconst (v := 2) hx hb d_DK_beginIfIdle_67 (by decide) ?_
    refine lv_iadd hx hb d_DK_beginIfIdle_68 ?_
    refine fh_put hx hb hG C_DK iG_DK hown hK hP hS kd2 4 (by decide) gm94 rfl (v := .int (((absJ (r9.2.2.2.1 / 8 - hd))) + 2)) rfl rfl (Nat.le_of_ble_eq_true rfl) d_DK_beginIfIdle_69 (fun H locs hP hS => ?_)
    obtain ⟨h_9, eh_10⟩ : ∃ z : fh_H, z = va_up h1 dk (some (.inr (5, [.ref qu, .ref med, .ref cs, .null, .int (((absJ (r9.2.2.2.1 / 8 - hd))) + 2), .int tm, .int hd, .int (chs (rqs.map (·.2)) tm hd up wy).2, .int wy, .int sd, .int il]))) := ⟨_, rfl⟩
    have hP : fh_P E.1 vwCl A h_9 H := by rw [eh_10]; exact hP
    have k_11 : h_9 qu = some (.inr (4, [.ref qal])) := by rw [eh_10]; exact fh_up kq2 (fh_ne kq2 kd2 (by decide))
    have k_12 : h_9 cs = some (.inr (2, [.ref cal])) := by rw [eh_10]; exact fh_up kcs2 (fh_ne kcs2 kd2 (by decide))
    have k_13 : h_9 r9.1 = some (.inr (3, [.int r9.2.1, .int r9.2.2.1, .int r9.2.2.2.1, .int r9.2.2.2.2.1, .int r9.2.2.2.2.2, .int 0])) := by rw [eh_10]; exact fh_up kr2 (fh_ne kr2 kd2 (by decide))
    have k_14 : h_9 med = some (.inl (fh_cI E, 256, .inl mf)) := by rw [eh_10]; exact fh_up km2 (fh_neA km2 kd2)
    have k_15 : h_9 dk = some (.inr (5, [.ref qu, .ref med, .ref cs, .null, .int (((absJ (r9.2.2.2.1 / 8 - hd))) + 2), .int tm, .int hd, .int (chs (rqs.map (·.2)) tm hd up wy).2, .int wy, .int sd, .int il])) := by rw [eh_10]; exact va_up_self _ _ _
    refine lv_aload_n hx hb d_DK_beginIfIdle_72 rfl (lv_at hl 2 rfl) ?_
    refine lv_iload_n hx hb d_DK_beginIfIdle_73 rfl (lv_at hl 0 rfl) ?_
    refine fh_put hx hb hG C_DK iG_DK hown hK hP hS k_15 6 (by decide) gm97 rfl (v := .int (r9.2.2.2.1 / 8)) rfl rfl (Nat.le_of_ble_eq_true rfl) d_DK_beginIfIdle_74 (fun H locs hP hS => ?_)
    obtain ⟨h_16, eh_17⟩ : ∃ z : fh_H, z = va_up h_9 dk (some (.inr (5, [.ref qu, .ref med, .ref cs, .null, .int (((absJ (r9.2.2.2.1 / 8 - hd))) + 2), .int tm, .int (r9.2.2.2.1 / 8), .int (chs (rqs.map (·.2)) tm hd up wy).2, .int wy, .int sd, .int il]))) := ⟨_, rfl⟩
    have hP : fh_P E.1 vwCl A h_16 H := by rw [eh_17]; exact hP
    have k_18 : h_16 qu = some (.inr (4, [.ref qal])) := by rw [eh_17]; exact fh_up k_11 (fh_ne k_11 k_15 (by decide))
    have k_19 : h_16 cs = some (.inr (2, [.ref cal])) := by rw [eh_17]; exact fh_up k_12 (fh_ne k_12 k_15 (by decide))
    have k_20 : h_16 r9.1 = some (.inr (3, [.int r9.2.1, .int r9.2.2.1, .int r9.2.2.2.1, .int r9.2.2.2.2.1, .int r9.2.2.2.2.2, .int 0])) := by rw [eh_17]; exact fh_up k_13 (fh_ne k_13 k_15 (by decide))
    have k_21 : h_16 med = some (.inl (fh_cI E, 256, .inl mf)) := by rw [eh_17]; exact fh_up k_14 (fh_neA k_14 k_15)
    have k_22 : h_16 dk = some (.inr (5, [.ref qu, .ref med, .ref cs, .null, .int (((absJ (r9.2.2.2.1 / 8 - hd))) + 2), .int tm, .int (r9.2.2.2.1 / 8), .int (chs (rqs.map (·.2)) tm hd up wy).2, .int wy, .int sd, .int il])) := by rw [eh_17]; exact va_up_self _ _ _
    refine lv_aload_n hx hb d_DK_beginIfIdle_77 rfl (lv_at hl 2 rfl) ?_
    refine lv_aload_n hx hb d_DK_beginIfIdle_78 rfl (lv_at hl 1 rfl) ?_
    refine fh_put hx hb hG C_DK iG_DK hown hK hP hS k_22 3 (by decide) gm92 rfl (v := .ref r9.1) rfl rfl (Nat.le_of_ble_eq_true rfl) d_DK_beginIfIdle_79 (fun H locs hP hS => ?_)
    obtain ⟨h_23, eh_24⟩ : ∃ z : fh_H, z = va_up h_16 dk (some (.inr (5, [.ref qu, .ref med, .ref cs, .ref r9.1, .int (((absJ (r9.2.2.2.1 / 8 - hd))) + 2), .int tm, .int (r9.2.2.2.1 / 8), .int (chs (rqs.map (·.2)) tm hd up wy).2, .int wy, .int sd, .int il]))) := ⟨_, rfl⟩
    have hP : fh_P E.1 vwCl A h_23 H := by rw [eh_24]; exact hP
    have k_25 : h_23 qu = some (.inr (4, [.ref qal])) := by rw [eh_24]; exact fh_up k_18 (fh_ne k_18 k_22 (by decide))
    have k_26 : h_23 cs = some (.inr (2, [.ref cal])) := by rw [eh_24]; exact fh_up k_19 (fh_ne k_19 k_22 (by decide))
    have k_27 : h_23 r9.1 = some (.inr (3, [.int r9.2.1, .int r9.2.2.1, .int r9.2.2.2.1, .int r9.2.2.2.2.1, .int r9.2.2.2.2.2, .int 0])) := by rw [eh_24]; exact fh_up k_20 (fh_ne k_20 k_22 (by decide))
    have k_28 : h_23 med = some (.inl (fh_cI E, 256, .inl mf)) := by rw [eh_24]; exact fh_up k_21 (fh_neA k_21 k_22)
    have k_29 : h_23 dk = some (.inr (5, [.ref qu, .ref med, .ref cs, .ref r9.1, .int (((absJ (r9.2.2.2.1 / 8 - hd))) + 2), .int tm, .int (r9.2.2.2.1 / 8), .int (chs (rqs.map (·.2)) tm hd up wy).2, .int wy, .int sd, .int il])) := by rw [eh_24]; exact va_up_self _ _ _
    have Fz : ∀ b, b ≠ dk → h_23 b = h1 b := fun b z => by rw [eh_24, va_up_ne _ _ z, eh_17, va_up_ne _ _ z, eh_10, va_up_ne _ _ z]
    have Fw : Fr h1 h_23 (fun b => b = dk) := fun b e hb n => (Fz b n).trans hb
    obtain ⟨mdz, halz⟩ := hC2.2.1.al
    obtain ⟨mqz, haqz⟩ := g1.2.1.al
    have D3 : Dm h1 h_23 := ((dm_up eh_10).trans ((dm_up eh_17).trans (dm_up eh_24)))
    have hed3 := hZ.edn hP
    refine fh_vret hx hb hr hlocks (Nat.le_of_ble_eq_true rfl) (Nat.le_of_ble_eq_true rfl) hP hS ⟨rfl, ⟨?_, ?_, k_28, ?_, fun r z => ?_, nE2, hqc, ?_⟩, fun b e hb n => ?_, D2.trans D3⟩ d_DK_beginIfIdle_82
    · rw [show begU r9.2 cps.length hd = absJ (r9.2.2.2.1 / 8 - hd) + 2 from if_neg c_8, show begH r9.2 hd = r9.2.2.2.1 / 8 from if_neg c_8]; exact k_29
    · exact g1.keep Fw (fh_ne g1.1 kd2 (by decide)) (fh_ne haqz kd2 (by decide)) (fun e _ z => g1.2.1.neO ed2 kd2 z.symm) (fun r hr => fh_ne (g1.2.2 r hr) kd2 (by decide))
    · exact hC2.keep Fw (fh_ne hC2.1 kd2 (by decide)) (fh_ne halz kd2 (by decide)) (fun e _ z => hC2.2.1.neO ed2 kd2 z.symm) (fun r hr => fh_ne (hC2.2.2 r hr) kd2 (by decide))
    · cases z; exact ⟨k_27, nE1⟩
    · exact ad_new hQ.2.1 hqa hed3 (Or.inl rfl)
    · rw [Fz b (fun z => n (Or.inl z)), g2 b (fun z => n (Or.inr (Or.inl z))) (fun z => n (Or.inr (Or.inr z))), eh_2, va_up_ne _ _ (fun z => n (Or.inl z))]; exact hb
  · skip
    refine lv_aload_n hx hb d_DK_beginIfIdle_33 rfl (lv_at hl 1 rfl) ?_
    refine lv_aload_n hx hb d_DK_beginIfIdle_34 rfl (lv_at hl 1 rfl) ?_
    refine fh_get hx hb hG C_DK iG_DK hown hK hP kd2 2 (by decide) gm90 rfl d_DK_beginIfIdle_35 ?_
    refine fh_callV (C := R_CS) (y := y_CS_size) (bytes := b_CS_size) (maxL := 1) (ret := (some .int)) (index := 105) (As := []) (rest := [.ref dk]) ⟨hx, hb, hml, hown, hG⟩ (c_CS_size l E h1 cs cal carr cps hC2 (by omega)) (cwV 0 hG (gV gm240 gm241 gm242 gm2 gm243) rfl rfl rfl ⟨rfl, hdy_CS_size⟩ ⟨Nat.le_of_ble_eq_true rfl, Nat.le_of_ble_eq_true rfl⟩) C_CS.1 kcs2 hK hZ hP hS hA rfl hl.1 rfl (Nat.le_of_ble_eq_true rfl) d_DK_beginIfIdle_38 ⟨Nat.le_of_ble_eq_true rfl, Nat.le_of_ble_eq_true rfl⟩ (fun r h2 H locs hq9 hP hS => ?_)
    obtain ⟨rfl, e9⟩ := hq9
    rw [e9] at hP
    refine W.eq (g2 := F0 m 41 ls [.int (nI cps.length), .ref dk]) rfl ?_
    refine lv_iconst (v := 1) hx hb d_DK_beginIfIdle_41 (by decide) ?_
    refine lv_iadd hx hb d_DK_beginIfIdle_42 ?_
    refine fh_put hx hb hG C_DK iG_DK hown hK hP hS kd2 4 (by decide) gm94 rfl (v := .int (((nI cps.length)) + 1)) rfl rfl (Nat.le_of_ble_eq_true rfl) d_DK_beginIfIdle_43 (fun H locs hP hS => ?_)
    obtain ⟨h_30, eh_31⟩ : ∃ z : fh_H, z = va_up h1 dk (some (.inr (5, [.ref qu, .ref med, .ref cs, .null, .int (((nI cps.length)) + 1), .int tm, .int hd, .int (chs (rqs.map (·.2)) tm hd up wy).2, .int wy, .int sd, .int il]))) := ⟨_, rfl⟩
    have hP : fh_P E.1 vwCl A h_30 H := by rw [eh_31]; exact hP
    have k_32 : h_30 qu = some (.inr (4, [.ref qal])) := by rw [eh_31]; exact fh_up kq2 (fh_ne kq2 kd2 (by decide))
    have k_33 : h_30 cs = some (.inr (2, [.ref cal])) := by rw [eh_31]; exact fh_up kcs2 (fh_ne kcs2 kd2 (by decide))
    have k_34 : h_30 r9.1 = some (.inr (3, [.int r9.2.1, .int r9.2.2.1, .int r9.2.2.2.1, .int r9.2.2.2.2.1, .int r9.2.2.2.2.2, .int 0])) := by rw [eh_31]; exact fh_up kr2 (fh_ne kr2 kd2 (by decide))
    have k_35 : h_30 med = some (.inl (fh_cI E, 256, .inl mf)) := by rw [eh_31]; exact fh_up km2 (fh_neA km2 kd2)
    have k_36 : h_30 dk = some (.inr (5, [.ref qu, .ref med, .ref cs, .null, .int (((nI cps.length)) + 1), .int tm, .int hd, .int (chs (rqs.map (·.2)) tm hd up wy).2, .int wy, .int sd, .int il])) := by rw [eh_31]; exact va_up_self _ _ _
    refine lv_goto (tgt := 77) hx hb d_DK_beginIfIdle_46 (by decide) ?_
    refine lv_aload_n hx hb d_DK_beginIfIdle_77 rfl (lv_at hl 1 rfl) ?_
    refine lv_aload_n hx hb d_DK_beginIfIdle_78 rfl (lv_at hl 0 rfl) ?_
    refine fh_put hx hb hG C_DK iG_DK hown hK hP hS k_36 3 (by decide) gm92 rfl (v := .ref r9.1) rfl rfl (Nat.le_of_ble_eq_true rfl) d_DK_beginIfIdle_79 (fun H locs hP hS => ?_)
    obtain ⟨h_37, eh_38⟩ : ∃ z : fh_H, z = va_up h_30 dk (some (.inr (5, [.ref qu, .ref med, .ref cs, .ref r9.1, .int (((nI cps.length)) + 1), .int tm, .int hd, .int (chs (rqs.map (·.2)) tm hd up wy).2, .int wy, .int sd, .int il]))) := ⟨_, rfl⟩
    have hP : fh_P E.1 vwCl A h_37 H := by rw [eh_38]; exact hP
    have k_39 : h_37 qu = some (.inr (4, [.ref qal])) := by rw [eh_38]; exact fh_up k_32 (fh_ne k_32 k_36 (by decide))
    have k_40 : h_37 cs = some (.inr (2, [.ref cal])) := by rw [eh_38]; exact fh_up k_33 (fh_ne k_33 k_36 (by decide))
    have k_41 : h_37 r9.1 = some (.inr (3, [.int r9.2.1, .int r9.2.2.1, .int r9.2.2.2.1, .int r9.2.2.2.2.1, .int r9.2.2.2.2.2, .int 0])) := by rw [eh_38]; exact fh_up k_34 (fh_ne k_34 k_36 (by decide))
    have k_42 : h_37 med = some (.inl (fh_cI E, 256, .inl mf)) := by rw [eh_38]; exact fh_up k_35 (fh_neA k_35 k_36)
    have k_43 : h_37 dk = some (.inr (5, [.ref qu, .ref med, .ref cs, .ref r9.1, .int (((nI cps.length)) + 1), .int tm, .int hd, .int (chs (rqs.map (·.2)) tm hd up wy).2, .int wy, .int sd, .int il])) := by rw [eh_38]; exact va_up_self _ _ _
    have Fz : ∀ b, b ≠ dk → h_37 b = h1 b := fun b z => by rw [eh_38, va_up_ne _ _ z, eh_31, va_up_ne _ _ z]
    have Fw : Fr h1 h_37 (fun b => b = dk) := fun b e hb n => (Fz b n).trans hb
    obtain ⟨mdz, halz⟩ := hC2.2.1.al
    obtain ⟨mqz, haqz⟩ := g1.2.1.al
    have D3 : Dm h1 h_37 := ((dm_up eh_31).trans (dm_up eh_38))
    have hed3 := hZ.edn hP
    refine fh_vret hx hb hr hlocks (Nat.le_of_ble_eq_true rfl) (Nat.le_of_ble_eq_true rfl) hP hS ⟨rfl, ⟨?_, ?_, k_42, ?_, fun r z => ?_, nE2, hqc, ?_⟩, fun b e hb n => ?_, D2.trans D3⟩ d_DK_beginIfIdle_82
    · rw [show begU r9.2 cps.length hd = nI cps.length + 1 from if_pos c_8, show begH r9.2 hd = hd from if_pos c_8]; exact k_43
    · exact g1.keep Fw (fh_ne g1.1 kd2 (by decide)) (fh_ne haqz kd2 (by decide)) (fun e _ z => g1.2.1.neO ed2 kd2 z.symm) (fun r hr => fh_ne (g1.2.2 r hr) kd2 (by decide))
    · exact hC2.keep Fw (fh_ne hC2.1 kd2 (by decide)) (fh_ne halz kd2 (by decide)) (fun e _ z => hC2.2.1.neO ed2 kd2 z.symm) (fun r hr => fh_ne (hC2.2.2 r hr) kd2 (by decide))
    · cases z; exact ⟨k_41, nE1⟩
    · exact ad_new hQ.2.1 hqa hed3 (Or.inl rfl)
    · rw [Fz b (fun z => n (Or.inl z)), g2 b (fun z => n (Or.inr (Or.inl z))) (fun z => n (Or.inr (Or.inr z))), eh_2, va_up_ne _ _ (fun z => n (Or.inl z))]; exact hb
