/-! THE LAYER, in the model: load. -/
theorem wbL_in {b v : Int32} : ∀ {xs ys : List mQ}, wbL b v xs = some ys → ys.length = xs.length ∧ ∀ r ∈ ys, ∃ r' ∈ xs, r.1 = r'.1 := by
  intro xs
  induction xs with
  | nil => intro ys h; cases h
  | cons r t ih =>
    intro ys h
    unfold wbL at h
    split at h
    · cases h
    · split at h
      · split at h
        · cases h
          refine ⟨rfl, fun x hx9 => ?_⟩
          rcases List.mem_cons.mp hx9 with rfl | z
          · exact ⟨r, List.mem_cons_self, rfl⟩
          · exact ⟨x, List.mem_cons_of_mem _ z, rfl⟩
        · cases h
      · cases h9 : wbL b v t with
        | none => rw [h9] at h; cases h
        | some zs =>
          rw [h9] at h
          cases h
          obtain ⟨k1, k2⟩ := ih h9
          refine ⟨by rw [List.length_cons, List.length_cons, k1], fun x hx9 => ?_⟩
          rcases List.mem_cons.mp hx9 with rfl | z
          · exact ⟨_, List.mem_cons_self, rfl⟩
          · obtain ⟨y, hy, e⟩ := k2 x z
            exact ⟨y, List.mem_cons_of_mem _ hy, e⟩
theorem NB.add {S : mS} {N : Nat} {k b v : Int32} (h : NB S N) : NB (addM S k b v) (N + 1) := by
  obtain ⟨h1, h2, h3⟩ := h
  refine ⟨by show S.nn + 1 = _; rw [h1, nI_1], fun r hr => ?_, fun r hr => ?_⟩
  · rcases List.mem_append.mp hr with z | z
    · obtain ⟨j, hj, e⟩ := h2 r z
      exact ⟨j, by omega, e⟩
    · rw [List.mem_singleton.mp z]; exact ⟨N, by omega, h1⟩
  · obtain ⟨j, hj, e⟩ := h3 r hr
    exact ⟨j, by omega, e⟩
theorem NB.wb {S : mS} {N : Nat} {c : mC} (h : NB S N) : ∃ N2, N2 ≤ N + 1 ∧ NB (wbM S c) N2 ∧ (wbM S c).q.length ≤ S.q.length + 1 := by
  unfold wbM
  cases hw : wbL c.1 c.2.1 S.q.reverse with
  | none => exact ⟨N + 1, Nat.le_refl _, h.add, by show (S.q ++ [_]).length ≤ _; rw [List.length_append, List.length_singleton]; exact Nat.le_refl _⟩
  | some l =>
    obtain ⟨k1, k2⟩ := wbL_in hw
    obtain ⟨h1, h2, h3⟩ := h
    refine ⟨N, by omega, ⟨h1, fun r hr => ?_, h3⟩, ?_⟩
    · obtain ⟨r', hr', e⟩ := k2 r (List.mem_reverse.mp hr)
      rw [e]; exact h2 r' (List.mem_reverse.mp hr')
    · show l.reverse.length ≤ _
      rw [List.length_reverse, k1, List.length_reverse]; omega
theorem NB.room {S : mS} {N : Nat} (h : NB S N) : ∃ N2, N2 ≤ N + 1 ∧ NB (roomM S) N2 ∧ (roomM S).q.length ≤ S.q.length + 1 := by
  unfold roomM
  by_cases z : S.bs.length < 10
  · rw [if_pos z]; exact ⟨N, by omega, h, by omega⟩
  · rw [if_neg z]
    cases hb : S.bs with
    | nil => exact ⟨N, by omega, h, Nat.le_succ _⟩
    | cons c t =>
      simp only []
      have hE : NB (evM S t) N := h
      split
      · exact ⟨N, by omega, hE, Nat.le_succ _⟩
      · exact hE.wb
theorem Inv.add {S : mS} {t : Nat} {k b v : Int32} (hI : Inv S t) (hq : S.q.length < 40) (hk : qOK (S.nn, k, b, S.tm, v)) : Inv (addM S k b v) t := by
  obtain ⟨i1, i2, i3, i4, i5, i6, i7, i8, i9, i10, i11, i12, i13⟩ := hI
  refine ⟨i1, ?_, i3, fun r hr => ?_, i5, i6, i7, i8, i9, i10, i11, i12, i13⟩
  · show (S.q ++ [_]).length ≤ 40
    rw [List.length_append, List.length_singleton]; omega
  · rcases List.mem_append.mp hr with z | z
    · exact i4 r z
    · rw [List.mem_singleton.mp z]; exact hk
theorem BLr.cnt {E : fh_E} {h : fh_H} {bl dk med : Nat} {rqs : List tQ} {sv : Option tQ} {S : mS} (hS : BLr E h bl dk med rqs sv S) {r : tQ} (hr : r ∈ rqs ∨ sv = some r) : 1 ≤ Jvm.Pilot.CBlockLayerLaw_law_r6542_5cf85c.cnt S := by
  obtain ⟨bcs, bal, barr, qu, qal, qarr, cs, cal, carr, bps, cps, hS, eb, eq, ec, es⟩ := hS
  unfold Jvm.Pilot.CBlockLayerLaw_law_r6542_5cf85c.cnt
  rcases hr with z | z
  · have : 1 ≤ S.q.length := by
      rw [← eq, List.length_map]
      exact List.length_pos_of_mem z
    omega
  · rw [← es, z]
    show 1 ≤ S.q.length + 1
    omega
theorem BLr.live {E : fh_E} {h : fh_H} {bl dk med : Nat} {rqs : List tQ} {sv : Option tQ} {S : mS} (hS : BLr E h bl dk med rqs sv S) {r : tQ} (hr : r ∈ rqs ∨ sv = some r) : h r.1 = some (.inr (3, [.int r.2.1, .int r.2.2.1, .int r.2.2.2.1, .int r.2.2.2.2.1, .int r.2.2.2.2.2, .int 0])) := by
  obtain ⟨bcs, bal, barr, qu, qal, qarr, cs, cal, carr, bps, cps, hS, -⟩ := hS
  rcases hr with z | z
  · exact hS.2.2.1.2.1.2.2 r z
  · exact (hS.2.2.1.2.2.2.2.1 r z).1
theorem Sv.sub {rq rq2 : List tQ} {s2 : Option tQ} {r9 r : tQ} (h : Sv rq s2 rq2 r9) (hr : r ∈ rq2) : r ∈ rq ∨ s2 = some r := by
  rcases h with ⟨-, rfl⟩ | ⟨-, k, -, rfl⟩
  · exact Or.inl hr
  · exact Or.inl (er_mem hr)
theorem Sv.one {rq rq2 : List tQ} {s2 : Option tQ} {r9 : tQ} (h : Sv rq s2 rq2 r9) : r9 ∈ rq ∨ s2 = some r9 := by
  rcases h with ⟨z, -⟩ | ⟨-, k, z, -⟩
  · exact Or.inr z
  · exact Or.inl (List.mem_of_getElem? z)
theorem Sv.rest {rq rq2 : List tQ} {s2 : Option tQ} {r9 r : tQ} (h : Sv rq s2 rq2 r9) (hr : r ∈ rq ∨ s2 = some r) (hne : ¬ r9 = r) : r ∈ rq2 := by
  rcases h with ⟨z, rfl⟩ | ⟨z, k, w, rfl⟩
  · rcases hr with y | y
    · exact y
    · rw [z] at y; exact absurd (Option.some.inj y) hne
  · rcases hr with y | y
    · obtain ⟨j, hj⟩ := List.getElem?_of_mem y
      refine List.mem_eraseIdx_iff_getElem?.mpr ⟨j, fun e => ?_, hj⟩
      rw [e, w] at hj; exact hne (Option.some.inj hj)
    · rw [z] at y; cases y
set_option maxHeartbeats 4000000 in
set_option maxRecDepth 100000 in
theorem c_BL_load (l : Launch) (E : fh_E) (h : fh_H) (bl med : Nat) (S : mS) (t : Nat) (hS0 : ALy E h bl med S) (hI : Inv S t) (n : Nat) (hn : n < 256) (hroom : S.q.length + 2 ≤ 40) (N : Nat) (hNB : NB S N) (hN : N < 1000000) : fh_Met l y_BL_load w_BL_load ({ frames := 11, cells := 90, slots := 3362, locals := 279 }) E [.ref bl, .int (nI n)] h (fun r h1 => r = some (.int ((loadM S (nI n)).2)) ∧ ALy E h1 bl med ((loadM S (nI n)).1) ∧ KB h h1 med) 90 3362 := by
  refine fh_ofW (cc := b_BL_load) (maxL := 5) (ret := (some .int)) (by decide) rfl (Nat.le_of_ble_eq_true rfl) ?_
  intro p e s m below meth c A ls hx hb hr hml hown hts hlocks hname hnoh hadm hA hK hZ hP hS hl
  have hG : ∀ w ∈ G, w.before _ s = true := fun w hw => hts w (List.mem_cons_of_mem _ hw)
  have hown : s.vm.findClass R_BL = some m.cls := hown
  have hl : lv_has ls 5 [(0, .ref bl), (1, .int (nI n))] := hl
  obtain ⟨dk, rqs, sv, hB⟩ := hS0
  have hed := hZ.edn hP
  obtain ⟨bcs, bal, barr, qu, qal, qarr, cs, cal, carr, bps, cps, hS1, eb, eq, ec, es⟩ := id hB
  obtain ⟨hb0, hBC, hDK, hap⟩ := id hS1
  obtain ⟨hd0, hQ, hm, hC, hsv, hnd, hqc, hqa⟩ := id hDK
  have kqu := hQ.1
  have kcs := hC.1
  have kbc := hBC.1
  have hb10 : bps.length ≤ 10 := by
    have h9 : (bps.map (·.2)).length ≤ 10 := by rw [eb]; exact hI.bs10
    rw [List.length_map] at h9
    exact h9
  have hq40 : rqs.length ≤ 40 := by
    have h9 : (rqs.map (·.2)).length ≤ 40 := by rw [eq]; exact hI.q40
    rw [List.length_map] at h9
    exact h9
  have hc6 : cps.length ≤ 6 := by
    have h9 : (cps.map (·.2)).length ≤ 6 := by rw [ec]; exact hI.ca6
    rw [List.length_map] at h9
    exact h9
  refine lv_iload_n hx hb d_BL_load_0 rfl (lv_at hl 1 rfl) ?_
  refine fh_callS (y := y_BL_requireBlock) (bytes := b_BL_requireBlock) (maxL := 1) (ret := none) (index := 23) (As := [.int (nI n)]) (rest := []) ⟨hx, hb, hml, hown, hG⟩ (c_BL_requireBlock l E h n hn) ⟨callB_of 1 hG (gB gm440) rfl rfl rfl (hG _ gm1) (hG _ gm438) hdy_BL_requireBlock ⟨Nat.le_of_ble_eq_true rfl, Nat.le_of_ble_eq_true rfl⟩, hG _ gm439⟩ hK hZ hP hS hA rfl hl.1 rfl (Nat.le_of_ble_eq_true rfl) d_BL_load_1 ⟨Nat.le_of_ble_eq_true rfl, Nat.le_of_ble_eq_true rfl⟩ (fun r h1 H locs hq9 hP hS => ?_)
  obtain ⟨rfl, e9⟩ := hq9
  rw [e9] at hP
  refine W.eq (g2 := F0 m 4 ls []) rfl ?_
  refine lv_aload_n hx hb d_BL_load_4 rfl (lv_at hl 0 rfl) ?_
  refine lv_iconst (v := 2) hx hb d_BL_load_5 (by decide) ?_
  refine fh_callV (C := R_BL) (y := y_BL_requireQueueRoom) (bytes := b_BL_requireQueueRoom) (maxL := 2) (ret := none) (index := 27) (As := [.int 2]) (rest := []) ⟨hx, hb, hml, hown, hG⟩ (c_BL_requireQueueRoom l E h bl bcs bal barr dk qu qal qarr med cs cal carr bps rqs S.mf cps sv S.ul S.tm S.hd S.up S.wy S.sd S.il S.nn S.hi S.mi S.ev S.ab hS1 (by omega) 2 (by rw [← eq, List.length_map] at hroom; omega)) (cwV 1 hG (gV gm509 gm511 gs_BL_requireQueueRoom gm1 gm512) rfl rfl rfl ⟨rfl, hdy_BL_requireQueueRoom⟩ ⟨Nat.le_of_ble_eq_true rfl, Nat.le_of_ble_eq_true rfl⟩) C_BL.1 hb0 hK hZ hP hS hA rfl hl.1 rfl (Nat.le_of_ble_eq_true rfl) d_BL_load_6 ⟨Nat.le_of_ble_eq_true rfl, Nat.le_of_ble_eq_true rfl⟩ (fun r h1 H locs hq9 hP hS => ?_)
  obtain ⟨rfl, e9⟩ := hq9
  rw [e9] at hP
  refine W.eq (g2 := F0 m 9 ls []) rfl ?_
  refine lv_aload_n hx hb d_BL_load_9 rfl (lv_at hl 0 rfl) ?_
  refine fh_get hx hb hG C_BL iG_BL hown hK hP hb0 0 (by decide) gm130 rfl d_BL_load_10 ?_
  refine lv_iload_n hx hb d_BL_load_13 rfl (lv_at hl 1 rfl) ?_
  refine fh_callV (C := R_CS) (y := y_CS_copyOf) (bytes := b_CS_copyOf) (maxL := 3) (ret := (some (.object "BlockLayer$Copy"))) (index := 30) (As := [.int (nI n)]) (rest := []) ⟨hx, hb, hml, hown, hG⟩ (c_CS_copyOf l E h bcs bal barr bps hBC (by omega) (nI n)) (cwV 1 hG (gV gm367 gm261 gm262 gm2 gm263) rfl rfl rfl ⟨rfl, hdy_CS_copyOf⟩ ⟨Nat.le_of_ble_eq_true rfl, Nat.le_of_ble_eq_true rfl⟩) C_CS.1 kbc hK hZ hP hS hA rfl hl.1 rfl (Nat.le_of_ble_eq_true rfl) d_BL_load_14 ⟨Nat.le_of_ble_eq_true rfl, Nat.le_of_ble_eq_true rfl⟩ (fun r h1 H locs hq9 hP hS => ?_)
  obtain ⟨rfl, e9⟩ := hq9
  rw [e9] at hP
  refine W.eq (g2 := F0 m 17 ls [va_rf ((bps.find? (fun c => c.2.1 == nI n)).map (·.1))]) rfl ?_
  have hbf : bfM S (nI n) = (bps.find? (fun c => c.2.1 == nI n)).map (·.2) := by
    unfold bfM; rw [← eb, List.find?_map]; rfl
  cases hfd : bps.find? (fun c => c.2.1 == nI n) with
  | some c0 =>
    have hm0 := List.mem_of_find?_eq_some hfd
    have kc := hBC.2.2 c0 hm0
    have hcb : c0.2.1 = nI n := by have := List.find?_some hfd; exact beq_iff_eq.mp this
    refine W.eq (g2 := F0 m 17 ls [.ref c0.1]) (rfl) ?_
    refine lv_astore_n (lv' := [(2, .ref c0.1), (0, .ref bl), (1, .int (nI n))]) hx hb d_BL_load_17 rfl hl (by decide) rfl (fun ls hl => ?_)
    refine lv_aload_n hx hb d_BL_load_18 rfl (lv_at hl 0 rfl) ?_
    refine lv_ifnonnull (tgt := 90) hx hb d_BL_load_19 (by decide) ?_
    refine lv_aload_n hx hb d_BL_load_90 rfl (lv_at hl 1 rfl) ?_
    refine lv_dup hx hb d_BL_load_91 rfl ?_
    refine fh_get hx hb hG C_BL iG_BL hown hK hP hb0 3 (by decide) gm133 rfl d_BL_load_92 ?_
    refine lv_iconst (v := 1) hx hb d_BL_load_95 (by decide) ?_
    refine lv_iadd hx hb d_BL_load_96 ?_
    refine fh_put hx hb hG C_BL iG_BL hown hK hP hS hb0 3 (by decide) gm133 rfl (v := .int (S.hi + 1)) rfl rfl (Nat.le_of_ble_eq_true rfl) d_BL_load_97 (fun H locs hP hS => ?_)
    obtain ⟨h_1, eh_2⟩ : ∃ z : fh_H, z = va_up h bl (some (.inr (6, [.ref bcs, .ref dk, .int S.nn, .int (S.hi + 1), .int S.mi, .int S.ev, .int S.ab]))) := ⟨_, rfl⟩
    have hP : fh_P E.1 vwCl A h_1 H := by rw [eh_2]; exact hP
    have k_3 : h_1 dk = some (.inr (5, [.ref qu, .ref med, .ref cs, va_rf (sv.map (·.1)), .int S.ul, .int S.tm, .int S.hd, .int S.up, .int S.wy, .int S.sd, .int S.il])) := by rw [eh_2]; exact fh_up hd0 (fh_ne hd0 hb0 (by decide))
    have k_4 : h_1 qu = some (.inr (4, [.ref qal])) := by rw [eh_2]; exact fh_up kqu (fh_ne kqu hb0 (by decide))
    have k_5 : h_1 cs = some (.inr (2, [.ref cal])) := by rw [eh_2]; exact fh_up kcs (fh_ne kcs hb0 (by decide))
    have k_6 : h_1 bcs = some (.inr (2, [.ref bal])) := by rw [eh_2]; exact fh_up kbc (fh_ne kbc hb0 (by decide))
    have k_7 : h_1 c0.1 = some (.inr (1, [.int c0.2.1, .int c0.2.2.1, .int c0.2.2.2])) := by rw [eh_2]; exact fh_up kc (fh_ne kc hb0 (by decide))
    have k_8 : h_1 bl = some (.inr (6, [.ref bcs, .ref dk, .int S.nn, .int (S.hi + 1), .int S.mi, .int S.ev, .int S.ab])) := by rw [eh_2]; exact va_up_self _ _ _
    have ed2 := hZ.edn hP
    have S2 := hS1.upB (nn2 := S.nn) (hi2 := S.hi + 1) (mi2 := S.mi) (ev2 := S.ev) (ab2 := S.ab) hed ed2 eh_2
    refine lv_aload_n hx hb d_BL_load_100 rfl (lv_at hl 1 rfl) ?_
    refine fh_get hx hb hG C_BL iG_BL hown hK hP k_8 0 (by decide) gm130 rfl d_BL_load_101 ?_
    refine lv_aload_n hx hb d_BL_load_104 rfl (lv_at hl 0 rfl) ?_
    refine fh_callV (C := R_CS) (y := y_CS_putLast) (bytes := b_CS_putLast) (maxL := 3) (ret := none) (index := 65) (As := [.ref c0.1]) (rest := []) ⟨hx, hb, hml, hown, hG⟩ (c_CS_putLast l E h_1 bcs bal barr bps S2.2.1 (by omega) c0 k_7) (cwV 1 hG (gV gm591 gm289 gm290 gm2 gm291) rfl rfl rfl ⟨rfl, hdy_CS_putLast⟩ ⟨Nat.le_of_ble_eq_true rfl, Nat.le_of_ble_eq_true rfl⟩) C_CS.1 k_6 hK hZ hP hS hA rfl hl.1 rfl (Nat.le_of_ble_eq_true rfl) d_BL_load_105 ⟨Nat.le_of_ble_eq_true rfl, Nat.le_of_ble_eq_true rfl⟩ (fun r h3 H locs hq9 hP hS => ?_)
    obtain ⟨rfl, barr2, g1, g2⟩ := hq9
    refine W.eq (g2 := F0 m 108 ls []) rfl ?_
    have kc3 := g1.2.2 c0 (List.mem_append.mpr (Or.inr (List.mem_singleton.mpr rfl)))
    refine lv_aload_n hx hb d_BL_load_108 rfl (lv_at hl 0 rfl) ?_
    refine fh_get hx hb hG C_CP iG_CP hown hK hP kc3 1 (by decide) gm277 rfl d_BL_load_109 ?_
    have ed3 := hZ.edn hP
    have S3 := S2.put ed2 ed3 g1 g2 (ep_nin (by rw [hcb]; exact hfd) hap.2.2.2.2.1) (fun c hc => hap.2.2.2.2.2 c0 hm0 c hc)
    have es9 : loadM S (nI n) = (putM (hitM S) (nI n) c0.2.2.1 c0.2.2.2, c0.2.2.1) := by unfold loadM; rw [hbf, hfd]; rfl
    exact fh_iret hx hb hr hlocks (Nat.le_of_ble_eq_true rfl) (Nat.le_of_ble_eq_true rfl) hP hS ⟨by rw [es9], ⟨dk, rqs, sv, bcs, bal, barr2, qu, qal, qarr, cs, cal, carr, _, cps, by rw [es9]; exact S3, by rw [es9]; show (bps.eraseP (fun d : tC => d.2.1 == c0.2.1) ++ [c0]).map (fun x : tC => x.2) = S.bs.eraseP (fun c => c.1 == nI n) ++ [(nI n, c0.2.2.1, c0.2.2.2)]; rw [List.map_append, ep_map, eb, hcb]; show _ ++ [c0.2] = _; rw [← hcb], by rw [es9]; exact eq, by rw [es9]; exact ec, by rw [es9]; exact es⟩, (KB.up hb0 (by decide) eh_2).trans (KB.lfr S2.2.1.2.1 ed2 g2)⟩ d_BL_load_112
  | none =>
    refine W.eq (g2 := F0 m 17 ls [.null]) (rfl) ?_
    refine lv_astore_nN (lv' := [(2, .null), (0, .ref bl), (1, .int (nI n))]) hx hb d_BL_load_17 rfl hl (by decide) rfl (fun ls hl => ?_)
    refine lv_aload_nN hx hb d_BL_load_18 rfl (lv_at hl 0 rfl) ?_
    refine lv_ifnonnullN hx hb d_BL_load_19 ?_
    refine lv_aload_n hx hb d_BL_load_22 rfl (lv_at hl 1 rfl) ?_
    refine lv_dup hx hb d_BL_load_23 rfl ?_
    refine fh_get hx hb hG C_BL iG_BL hown hK hP hb0 4 (by decide) gm134 rfl d_BL_load_24 ?_
    refine lv_iconst (v := 1) hx hb d_BL_load_27 (by decide) ?_
    refine lv_iadd hx hb d_BL_load_28 ?_
    refine fh_put hx hb hG C_BL iG_BL hown hK hP hS hb0 4 (by decide) gm134 rfl (v := .int (S.mi + 1)) rfl rfl (Nat.le_of_ble_eq_true rfl) d_BL_load_29 (fun H locs hP hS => ?_)
    obtain ⟨h_9, eh_10⟩ : ∃ z : fh_H, z = va_up h bl (some (.inr (6, [.ref bcs, .ref dk, .int S.nn, .int S.hi, .int (S.mi + 1), .int S.ev, .int S.ab]))) := ⟨_, rfl⟩
    have hP : fh_P E.1 vwCl A h_9 H := by rw [eh_10]; exact hP
    have k_11 : h_9 dk = some (.inr (5, [.ref qu, .ref med, .ref cs, va_rf (sv.map (·.1)), .int S.ul, .int S.tm, .int S.hd, .int S.up, .int S.wy, .int S.sd, .int S.il])) := by rw [eh_10]; exact fh_up hd0 (fh_ne hd0 hb0 (by decide))
    have k_12 : h_9 qu = some (.inr (4, [.ref qal])) := by rw [eh_10]; exact fh_up kqu (fh_ne kqu hb0 (by decide))
    have k_13 : h_9 cs = some (.inr (2, [.ref cal])) := by rw [eh_10]; exact fh_up kcs (fh_ne kcs hb0 (by decide))
    have k_14 : h_9 bcs = some (.inr (2, [.ref bal])) := by rw [eh_10]; exact fh_up kbc (fh_ne kbc hb0 (by decide))
    have k_15 : h_9 bl = some (.inr (6, [.ref bcs, .ref dk, .int S.nn, .int S.hi, .int (S.mi + 1), .int S.ev, .int S.ab])) := by rw [eh_10]; exact va_up_self _ _ _
    have ed1 := hZ.edn hP
    have S1 := hS1.upB (nn2 := S.nn) (hi2 := S.hi) (mi2 := S.mi + 1) (ev2 := S.ev) (ab2 := S.ab) hed ed1 eh_10
    have B1 : BLr E h_9 bl dk med rqs sv (misM S) := ⟨bcs, bal, barr, qu, qal, qarr, cs, cal, carr, bps, cps, S1, eb, eq, ec, es⟩
    have I1 : Inv (misM S) t := hI
    have N1 : NB (misM S) N := hNB
    have K1 : KB h h_9 med := KB.up hb0 (by decide) eh_10
    refine lv_aload_n hx hb d_BL_load_32 rfl (lv_at hl 1 rfl) ?_
    refine fh_callV (C := R_BL) (y := y_BL_makeBufferRoom) (bytes := b_BL_makeBufferRoom) (maxL := 2) (ret := none) (index := 38) (As := []) (rest := []) ⟨hx, hb, hml, hown, hG⟩ (c_room l E h_9 bl dk med rqs sv (misM S) t B1 I1) (cwV 0 hG (gV gm529 gm531 gs_BL_makeBufferRoom gm1 gm532) rfl rfl rfl ⟨rfl, hdy_BL_makeBufferRoom⟩ ⟨Nat.le_of_ble_eq_true rfl, Nat.le_of_ble_eq_true rfl⟩) C_BL.1 k_15 hK hZ hP hS hA rfl hl.1 rfl (Nat.le_of_ble_eq_true rfl) d_BL_load_33 ⟨Nat.le_of_ble_eq_true rfl, Nat.le_of_ble_eq_true rfl⟩ (fun r h1 H locs hq9 hP hS => ?_)
    obtain ⟨rfl, rqs3, B3, K3⟩ := hq9
    obtain ⟨I3, -⟩ := I1.room (show S.q.length < 40 by omega)
    obtain ⟨N3, n3, NB3, l3⟩ := N1.room
    have l3 : (roomM (misM S)).q.length ≤ S.q.length + 1 := l3
    refine W.eq (g2 := F0 m 36 ls []) rfl ?_
    obtain ⟨S3, eS3⟩ : ∃ z, z = roomM (misM S) := ⟨_, rfl⟩
    rw [← eS3] at B3 I3 NB3 l3
    obtain ⟨bcs1, qu1, cs1, kb1, kd1⟩ := B3.cells
    refine lv_aload_n hx hb d_BL_load_36 rfl (lv_at hl 1 rfl) ?_
    refine lv_iconst (v := 0) hx hb d_BL_load_37 (by decide) ?_
    refine lv_iload_n hx hb d_BL_load_38 rfl (lv_at hl 2 rfl) ?_
    refine lv_iconst (v := 0) hx hb d_BL_load_39 (by decide) ?_
    refine fh_callV (C := R_BL) (y := y_BL_makeRequest) (bytes := b_BL_makeRequest) (maxL := 5) (ret := (some (.object "BlockLayer$Request"))) (index := 41) (As := [.int 0, .int (nI n), .int 0]) (rest := []) ⟨hx, hb, hml, hown, hG⟩ (c_mk l E h1 bl dk med rqs3 sv S3 t B3 I3 0 (nI n) 0) (cwV 3 hG (gV gm542 gm544 gs_BL_makeRequest gm1 gm545) rfl rfl rfl ⟨rfl, hdy_BL_makeRequest⟩ ⟨Nat.le_of_ble_eq_true rfl, Nat.le_of_ble_eq_true rfl⟩) C_BL.1 kb1 hK hZ hP hS hA rfl hl.1 rfl (Nat.le_of_ble_eq_true rfl) d_BL_load_40 ⟨Nat.le_of_ble_eq_true rfl, Nat.le_of_ble_eq_true rfl⟩ (fun r h2 H locs hq9 hP hS => ?_)
    obtain ⟨q, rfl, B4, K4⟩ := hq9
    have I4 : Inv (addM S3 0 (nI n) 0) t := I3.add (by omega) ⟨Or.inl rfl, fun _ => ⟨n, hn, rfl⟩⟩
    obtain ⟨S4, eS4⟩ : ∃ z, z = addM S3 0 (nI n) 0 := ⟨_, rfl⟩
    rw [← eS4] at B4 I4
    have K14 := (K1.trans K3).trans K4
    refine W.eq (g2 := F0 m 43 ls [.ref q]) rfl ?_
    refine lv_astore_n (lv' := [(3, .ref q), (2, .null), (0, .ref bl), (1, .int (nI n))]) hx hb d_BL_load_43 rfl hl (by decide) rfl (fun ls hl => ?_)
    refine lv_iconst (v := 0) hx hb d_BL_load_44 (by decide) ?_
    refine lv_istore (lv' := [(4, .int 0), (3, .ref q), (2, .null), (0, .ref bl), (1, .int (nI n))]) hx hb d_BL_load_45 hl (by decide) rfl (fun ls hl => ?_)
    have es9 : loadM S (nI n) = (putM (ldM 41 S3.nn S4).1 (nI n) (ldM 41 S3.nn S4).2 0, (ldM 41 S3.nn S4).2) := by unfold loadM; rw [hbf, hfd, eS4, eS3]; rfl
    have tail : ∀ (S5 : mS) (v ii : Int32) (rq : List tQ) (t5 : Nat) (hw : fh_H) (H : Heap) (locs : List Loc) (cells slots : Nat) (ls : Array Slot), ldM 41 S3.nn S4 = (S5, v) → cells ≤ 88 → slots ≤ 3286 → Inv S5 t5 → BLr E hw bl dk med rq none S5 → hw q = some (.inr (3, [.int S3.nn, .int 0, .int (nI n), .int S3.tm, .int v, .int 1])) → KB h hw med → lv_has ls 5 [(4, .int (ii)), (3, .ref q), (2, .null), (0, .ref bl), (1, .int (nI n))] → fh_P E.1 vwCl A hw H → va_S A s.heap H locs → W p l e ({ frames := 11, cells := 90, slots := 3362, locals := 279 }) s m ([.ref bl, .int (nI n)] : List Value).toArray below meth c H locs cells slots (MQ below (fh_Post E (fun r h1 => r = some (.int ((loadM S (nI n)).2)) ∧ ALy E h1 bl med ((loadM S (nI n)).1) ∧ KB h h1 med) A) ([.ref bl, .int (nI n)] : List Value).toArray s 90 3362 A) (F0 m 74 ls []) := by
      intro S5 v ii rq t5 hw H locs cells slots ls el c1 c2 I5 B5 kq5 K5 hl hP hS
      have ed5 := hZ.edn hP
      obtain ⟨bcs, bal, barr, qu, qal, qarr, cs, cal, carr, bps, cps, hS1, eb, eq, ec, es⟩ := id B5
      obtain ⟨hb0, hBC, hDK, hap⟩ := id hS1
      obtain ⟨hd0, hQ, hm, hC, hsv, hnd, hqc, hqa⟩ := id hDK
      have hb10 : bps.length ≤ 10 := by
        have h9 : (bps.map (·.2)).length ≤ 10 := by rw [eb]; exact I5.bs10
        rw [List.length_map] at h9
        exact h9
      refine fh_new hx hb hG C_CP iG_CP hown gm589 gm267 gm21 hK hP hS hA (fs := [.int 0, .int 0, .int 0]) (fun j hj => by rcases (show j = 0 ∨ j = 1 ∨ j = 2 by omega) with rfl | rfl | rfl <;> rfl) (show cells + 1 ≤ 90 by omega) (show slots + 3 ≤ 3362 by omega) d_BL_load_74 (fun q5 H hf_16 hP hS => ?_)
      obtain ⟨h_17, eh_18⟩ : ∃ z : fh_H, z = va_up hw q5 (some (.inr (1, [.int 0, .int 0, .int 0]))) := ⟨_, rfl⟩
      have hP : fh_P E.1 vwCl A h_17 H := by rw [eh_18]; exact hP
      have k_19 : h_17 q = some (.inr (3, [.int S3.nn, .int 0, .int (nI n), .int S3.tm, .int v, .int 1])) := by rw [eh_18]; exact fh_up kq5 (fh_neF kq5 hf_16)
      have k_20 : h_17 q5 = some (.inr (1, [.int 0, .int 0, .int 0])) := by rw [eh_18]; exact va_up_self _ _ _
      refine lv_dup hx hb d_BL_load_77 rfl ?_
      refine lv_iload_n hx hb d_BL_load_78 rfl (lv_at hl 4 rfl) ?_
      refine lv_aload_n hx hb d_BL_load_79 rfl (lv_at hl 1 rfl) ?_
      refine fh_get hx hb hG C_RQ iG_RQ hown hK hP k_19 4 (by decide) gm567 rfl d_BL_load_80 ?_
      refine fh_callI (b := q5) (y := y_CP_init) (bytes := b_CP_init) (maxL := 3) (index := 59) (As := [.int (nI n), .int v]) (rest := [.ref q5]) ⟨hx, hb, hml, hown, hG⟩ (c_CP_init l E h_17 q5 (nI n) v _ _ _ k_20) (cwI 2 hG (gB gm270) rfl rfl rfl (hG _ gm21) (hG _ gm590) (hG _ gm269) rfl hdy_CP_init ⟨Nat.le_of_ble_eq_true rfl, Nat.le_of_ble_eq_true rfl⟩) hK hZ hP hS hA rfl hl.1 rfl (Nat.le_of_ble_eq_true rfl) d_BL_load_83 ⟨show cells + 1 + 0 ≤ 90 by omega, show slots + 3 + 0 ≤ 3362 by omega⟩ (fun r h6 H locs hq9 hP hS => ?_)
      obtain ⟨rfl, e9⟩ := hq9
      refine W.eq (g2 := F0 m 86 ls [.ref q5]) rfl ?_
      have e8 : h6 = va_up hw q5 (some (.inr (1, [.int (nI n), .int v, .int 0]))) := by rw [e9, eh_18, bx_uu]
      have k9 : h6 q5 = some (.inr (1, [.int (nI n), .int v, .int 0])) := by rw [e8]; exact va_up_self _ _ _
      have ed6 := hZ.edn hP
      have S6 := hS1.ext ed6 hf_16 e8
      obtain ⟨kb6, kB6, kD6, kap6⟩ := id S6
      have kbc6 := kB6.1
      refine lv_astore_n (lv' := [(2, .ref q5), (4, .int ii), (3, .ref q), (0, .ref bl), (1, .int (nI n))]) hx hb d_BL_load_86 rfl hl (by decide) rfl (fun ls hl => ?_)
      refine lv_goto (tgt := 100) hx hb d_BL_load_87 (by decide) ?_
      refine lv_aload_n hx hb d_BL_load_100 rfl (lv_at hl 3 rfl) ?_
      refine fh_get hx hb hG C_BL iG_BL hown hK hP kb6 0 (by decide) gm130 rfl d_BL_load_101 ?_
      refine lv_aload_n hx hb d_BL_load_104 rfl (lv_at hl 0 rfl) ?_
      refine fh_callV (C := R_CS) (y := y_CS_putLast) (bytes := b_CS_putLast) (maxL := 3) (ret := none) (index := 65) (As := [.ref q5]) (rest := []) ⟨hx, hb, hml, hown, hG⟩ (c_CS_putLast l E h6 bcs bal barr bps kB6 (by omega) (q5, nI n, v, 0) k9) (cwV 1 hG (gV gm591 gm289 gm290 gm2 gm291) rfl rfl rfl ⟨rfl, hdy_CS_putLast⟩ ⟨Nat.le_of_ble_eq_true rfl, Nat.le_of_ble_eq_true rfl⟩) C_CS.1 kbc6 hK hZ hP hS hA rfl hl.1 rfl (Nat.le_of_ble_eq_true rfl) d_BL_load_105 ⟨show cells + 1 + 0 + 1 ≤ 90 by omega, show slots + 3 + 0 + 73 ≤ 3362 by omega⟩ (fun r h7 H locs hq9 hP hS => ?_)
      obtain ⟨rfl, barr2, g1, g2⟩ := hq9
      refine W.eq (g2 := F0 m 108 ls []) rfl ?_
      have kc7 := g1.2.2 (q5, nI n, v, 0) (List.mem_append.mpr (Or.inr (List.mem_singleton.mpr rfl)))
      refine lv_aload_n hx hb d_BL_load_108 rfl (lv_at hl 0 rfl) ?_
      refine fh_get hx hb hG C_CP iG_CP hown hK hP kc7 1 (by decide) gm277 rfl d_BL_load_109 ?_
      have ed7 := hZ.edn hP
      have S7 := S6.put (c9 := (q5, nI n, v, 0)) ed6 ed7 g1 g2 (fun w => by
        obtain ⟨c, hc, z⟩ := List.mem_map.mp w
        exact fh_neF (hBC.2.2 c (List.mem_of_mem_eraseP hc)) hf_16 z) (fun c hc => Ne.symm (fh_neF (hC.2.2 c hc) hf_16))
      rw [el] at es9
      refine fh_iret hx hb hr hlocks (by omega) (by omega) hP hS ⟨by rw [es9], ⟨dk, rq, none, bcs, bal, barr2, qu, qal, qarr, cs, cal, carr, _, cps, by rw [es9]; exact S7, by rw [es9]; show (bps.eraseP (fun d : tC => d.2.1 == nI n) ++ [((q5, nI n, v, 0) : tC)]).map (fun x : tC => x.2) = S5.bs.eraseP (fun c => c.1 == nI n) ++ [(nI n, v, 0)]; rw [List.map_append, ep_map, eb]; rfl, by rw [es9]; exact eq, by rw [es9]; exact ec, by rw [es9]; exact es⟩, (K5.trans (KB.fresh hf_16 e8)).trans (KB.lfr kB6.2.1 ed6 g2)⟩ d_BL_load_112
    have loop : ∀ (f i : Nat) (S2 : mS) (rq : List tQ) (s2 : Option tQ) (t2 : Nat) (hw : fh_H) (H : Heap) (locs : List Loc) (cells slots : Nat) (ls : Array Slot), ldM 41 S3.nn S4 = ldM f S3.nn S2 → cnt S2 ≤ f → i + f = 41 → cells + 2 * f ≤ 88 → slots + 76 * f ≤ 3286 → ((q, S3.nn, 0, nI n, S3.tm, 0) ∈ rq ∨ s2 = some (q, S3.nn, 0, nI n, S3.tm, 0)) → (∀ r : tQ, (r ∈ rq ∨ s2 = some r) → r.2.1 = S3.nn → r = (q, S3.nn, 0, nI n, S3.tm, 0)) → Inv S2 t2 → BLr E hw bl dk med rq s2 S2 → KB h hw med → lv_has ls 5 [(4, .int (nI i)), (3, .ref q), (2, .null), (0, .ref bl), (1, .int (nI n))] → fh_P E.1 vwCl A hw H → va_S A s.heap H locs → W p l e ({ frames := 11, cells := 90, slots := 3362, locals := 279 }) s m ([.ref bl, .int (nI n)] : List Value).toArray below meth c H locs cells slots (MQ below (fh_Post E (fun r h1 => r = some (.int ((loadM S (nI n)).2)) ∧ ALy E h1 bl med ((loadM S (nI n)).1) ∧ KB h h1 med) A) ([.ref bl, .int (nI n)] : List Value).toArray s 90 3362 A) (F0 m 47 ls []) := by
      intro f
      induction f with
      | zero => intro i S2 rq s2 t2 hw H locs cells slots ls _ hc _ _ _ hlv _ _ hB2; have := hB2.cnt hlv; omega
      | succ f ih =>
        intro i S2 rq s2 t2 hw H locs cells slots ls ep hc hif c1 c2 hlv huq hI2 hB2 hk hl hP hS
        have krd := hB2.live hlv
        obtain ⟨bcs, qu, cs, kb2, kd2⟩ := hB2.cells
        have hw1 := cnt_w (S := S2) (by have := hB2.cnt hlv; omega)
        refine lv_iload hx hb d_BL_load_47 (lv_at hl 0 rfl) ?_
        refine lv_bipush (v := 40) hx hb d_BL_load_49 (by decide) ?_
        refine lv_icmp_gt (tgt := 74) hx hb d_BL_load_51 (by decide) (fun c_21 => ?_) (fun c_21 => ?_)
        · skip
          exact absurd c_21 (nI_nlt (a := 40) (by omega) (by omega))
        · skip
          refine lv_aload_n hx hb d_BL_load_54 rfl (lv_at hl 1 rfl) ?_
          refine fh_get hx hb hG C_RQ iG_RQ hown hK hP krd 5 (by decide) gm569 rfl d_BL_load_55 ?_
          refine lv_if_ne (tgt := 74) hx hb d_BL_load_58 (by decide) (fun c_22 => ?_) (fun c_22 => ?_)
          · skip
            exact absurd rfl c_22
          · skip
            refine lv_aload_n hx hb d_BL_load_61 rfl (lv_at hl 3 rfl) ?_
            refine fh_get hx hb hG C_BL iG_BL hown hK hP kb2 1 (by decide) gm131 rfl d_BL_load_62 ?_
            refine fh_callV (C := R_DK) (y := y_DK_passToNextEnd) (bytes := b_DK_passToNextEnd) (maxL := 1) (ret := none) (index := 51) (As := []) (rest := []) ⟨hx, hb, hml, hown, hG⟩ (c_next l E hw bl dk med rq s2 S2 t2 hB2 hI2 hw1) (cwV 0 hG (gV gm168 gm169 gm170 gm6 gm171) rfl rfl rfl ⟨rfl, hdy_DK_passToNextEnd⟩ ⟨Nat.le_of_ble_eq_true rfl, Nat.le_of_ble_eq_true rfl⟩) C_DK.1 kd2 hK hZ hP hS hA rfl hl.1 rfl (Nat.le_of_ble_eq_true rfl) d_BL_load_65 ⟨show cells + 2 ≤ 90 by omega, show slots + 76 ≤ 3362 by omega⟩ (fun r h5 H locs hq9 hP hS => ?_)
            obtain ⟨rfl, rq4, r9, B5, V5, kr5, -, K5, sv5⟩ := hq9
            obtain ⟨I5, E2, E3⟩ := hI2.next hw1
            have epn : ldM (f + 1) S3.nn S2 = if r9.2.1 = S3.nn then (nextM S2, endW S2.mf S2.ca r9.2) else ldM f S3.nn (nextM S2) := by
              show (match (bgM S2).sv with | none => _ | some r => _) = _
              rw [sv5]
            refine W.eq (g2 := F0 m 68 ls []) rfl ?_
            refine lv_iinc (v := ((nI i)) + 1) (lv' := [(4, .int (((nI i)) + 1)), (3, .ref q), (2, .null), (0, .ref bl), (1, .int (nI n))]) hx hb d_BL_load_68 hl (k := 0) rfl rfl (by decide) rfl (fun ls hl => ?_)
            refine lv_goto (tgt := 47) hx hb d_BL_load_71 (by decide) ?_
            by_cases z : r9 = (q, S3.nn, 0, nI n, S3.tm, 0)
            · subst z
              have el : ldM 41 S3.nn S4 = (nextM S2, endW S2.mf S2.ca (S3.nn, 0, nI n, S3.tm, 0)) := by rw [ep, epn, if_pos rfl]
              refine lv_iload hx hb d_BL_load_47 (lv_at hl 0 rfl) ?_
              refine lv_bipush (v := 40) hx hb d_BL_load_49 (by decide) ?_
              refine lv_icmp_gt (tgt := 74) hx hb d_BL_load_51 (by decide) (fun c_23 => ?_) (fun c_23 => ?_)
              · skip
                exact tail (nextM S2) _ _ rq4 _ h5 H locs _ _ ls el (by omega) (by omega) I5 B5 kr5 (hk.trans K5) hl hP hS
              · skip
                refine lv_aload_n hx hb d_BL_load_54 rfl (lv_at hl 1 rfl) ?_
                refine fh_get hx hb hG C_RQ iG_RQ hown hK hP kr5 5 (by decide) gm569 rfl d_BL_load_55 ?_
                refine lv_if_ne (tgt := 74) hx hb d_BL_load_58 (by decide) (fun c_24 => ?_) (fun c_24 => ?_)
                · skip
                  exact tail (nextM S2) _ _ rq4 _ h5 H locs _ _ ls el (by omega) (by omega) I5 B5 kr5 (hk.trans K5) hl hP hS
                · skip
                  exact absurd c_24 (by decide)
            · skip
              exact ih (i + 1) (nextM S2) rq4 none _ h5 H locs _ _ ls (by rw [ep, epn, if_neg (fun w => z (huq r9 V5.one w))]) (by omega) (by omega) (by omega) (by omega) (Or.inl (V5.rest hlv z)) (fun r hr w => by
                rcases hr with y | y
                · exact huq r (V5.sub y) w
                · cases y) I5 B5 (hk.trans K5) (by rw [nI_succ]; exact hl) hP hS
    exact loop 41 0 S4 (rqs3 ++ [(q, S3.nn, 0, nI n, S3.tm, 0)]) sv t h2 H locs _ _ ls rfl (cnt_41 I4) (by omega) (by omega) (by omega) (Or.inl (List.mem_append.mpr (Or.inr (List.mem_singleton.mpr rfl)))) (fun r hr w => by
      obtain ⟨bcs9, bal9, barr9, qu9, qal9, qarr9, cs9, cal9, carr9, bps9, cps9, -, -, eq9, -, es9⟩ := B3
      have nono : (∃ j, j < N3 ∧ r.2.1 = nI j) → False := fun ⟨j, hj, e⟩ => by
        rw [w, NB3.1] at e
        have := (nI_eq (by omega) (by omega)).mp e
        omega
      rcases hr with y | y
      · rcases List.mem_append.mp y with y | y
        · exact (nono (NB3.2.1 r.2 (by rw [← eq9]; exact List.mem_map.mpr ⟨r, y, rfl⟩))).elim
        · exact List.mem_singleton.mp y
      · exact (nono (NB3.2.2 r.2 (by rw [← es9, y]; rfl))).elim) I4 B4 K14 (by rw [nI_0]; exact hl) hP hS

set_option maxHeartbeats 4000000 in
set_option maxRecDepth 100000 in
theorem t_BL_load_b (l : Launch) (E : fh_E) (h : fh_H) (hfl : l.flags = pinnedFlags ++ [noTraceFlag]) (bl : Nat) (b : Int32) (hn : b.toInt < 0 ∨ (256 : Int) ≤ b.toInt) : th_M l y_BL_load w_BL_load ({ frames := 11, cells := 90, slots := 3362, locals := 279 }) E [.ref bl, .int b] h xIOB 90 3362 := by
  refine th_ofWh (cc := b_BL_load) (maxL := 5) (ret := (some .int)) (by decide) rfl (Nat.le_of_ble_eq_true rfl) ?_
  intro p e s m below meth c A ls hx hb hr hml hown hts hlocks hname hnoh hadm hA hK hZ hP hS hl
  have hG : ∀ w ∈ G, w.before _ s = true := fun w hw => hts w (List.mem_cons_of_mem _ hw)
  have hown : s.vm.findClass R_BL = some m.cls := hown
  have hl : lv_has ls 5 [(0, .ref bl), (1, .int b)] := hl
  refine lv_iload_n hx hb d_BL_load_0 rfl (lv_at hl 1 rfl) ?_
  exact th_callS (y := y_BL_requireBlock) (bytes := b_BL_requireBlock) (maxL := 1) (ret := none) (index := 23) (As := [.int b]) (rest := []) ⟨hx, hb, hml, hown, hG⟩ (t_BL_requireBlock l E h hfl b hn) ⟨callB_of 1 hG (gB gm440) rfl rfl rfl (hG _ gm1) (hG _ gm438) hdy_BL_requireBlock ⟨Nat.le_of_ble_eq_true rfl, Nat.le_of_ble_eq_true rfl⟩, hG _ gm439⟩ hK hZ hP hS hA rfl hl.1 rfl (Nat.le_of_ble_eq_true rfl) d_BL_load_1 ⟨Nat.le_of_ble_eq_true rfl, Nat.le_of_ble_eq_true rfl⟩ hnoh hlocks (Nat.le_of_ble_eq_true rfl) (Nat.le_of_ble_eq_true rfl)

set_option maxHeartbeats 4000000 in
set_option maxRecDepth 100000 in
theorem t_BL_load_q (l : Launch) (E : fh_E) (h : fh_H) (bl med : Nat) (S : mS) (t : Nat) (hfl : l.flags = pinnedFlags ++ [noTraceFlag]) (hS0 : ALy E h bl med S) (hI : Inv S t) (n : Nat) (hn : n < 256) (hroom : 40 < S.q.length + 2)  : th_M l y_BL_load w_BL_load ({ frames := 11, cells := 90, slots := 3362, locals := 279 }) E [.ref bl, .int (nI n)] h xUOE 90 3362 := by
  refine th_ofWh (cc := b_BL_load) (maxL := 5) (ret := (some .int)) (by decide) rfl (Nat.le_of_ble_eq_true rfl) ?_
  intro p e s m below meth c A ls hx hb hr hml hown hts hlocks hname hnoh hadm hA hK hZ hP hS hl
  have hG : ∀ w ∈ G, w.before _ s = true := fun w hw => hts w (List.mem_cons_of_mem _ hw)
  have hown : s.vm.findClass R_BL = some m.cls := hown
  have hl : lv_has ls 5 [(0, .ref bl), (1, .int (nI n))] := hl
  obtain ⟨dk, rqs, sv, hB⟩ := hS0
  obtain ⟨bcs, bal, barr, qu, qal, qarr, cs, cal, carr, bps, cps, hS1, eb, eq, ec, es⟩ := id hB
  obtain ⟨hb0, hBC, hDK, hap⟩ := id hS1
  obtain ⟨hd0, hQ, hm, hC, hsv, hnd, hqc, hqa⟩ := id hDK
  have kqu := hQ.1
  have kcs := hC.1
  have kbc := hBC.1
  have hb10 : bps.length ≤ 10 := by
    have h9 : (bps.map (·.2)).length ≤ 10 := by rw [eb]; exact hI.bs10
    rw [List.length_map] at h9
    exact h9
  have hq40 : rqs.length ≤ 40 := by
    have h9 : (rqs.map (·.2)).length ≤ 40 := by rw [eq]; exact hI.q40
    rw [List.length_map] at h9
    exact h9
  have hc6 : cps.length ≤ 6 := by
    have h9 : (cps.map (·.2)).length ≤ 6 := by rw [ec]; exact hI.ca6
    rw [List.length_map] at h9
    exact h9
  refine lv_iload_n hx hb d_BL_load_0 rfl (lv_at hl 1 rfl) ?_
  refine fh_callS (y := y_BL_requireBlock) (bytes := b_BL_requireBlock) (maxL := 1) (ret := none) (index := 23) (As := [.int (nI n)]) (rest := []) ⟨hx, hb, hml, hown, hG⟩ (c_BL_requireBlock l E h n hn) ⟨callB_of 1 hG (gB gm440) rfl rfl rfl (hG _ gm1) (hG _ gm438) hdy_BL_requireBlock ⟨Nat.le_of_ble_eq_true rfl, Nat.le_of_ble_eq_true rfl⟩, hG _ gm439⟩ hK hZ hP hS hA rfl hl.1 rfl (Nat.le_of_ble_eq_true rfl) d_BL_load_1 ⟨Nat.le_of_ble_eq_true rfl, Nat.le_of_ble_eq_true rfl⟩ (fun r h1 H locs hq9 hP hS => ?_)
  obtain ⟨rfl, e9⟩ := hq9
  rw [e9] at hP
  refine W.eq (g2 := F0 m 4 ls []) rfl ?_
  refine lv_aload_n hx hb d_BL_load_4 rfl (lv_at hl 0 rfl) ?_
  refine lv_iconst (v := 2) hx hb d_BL_load_5 (by decide) ?_
  exact th_callV (C := R_BL) (y := y_BL_requireQueueRoom) (bytes := b_BL_requireQueueRoom) (maxL := 2) (ret := none) (index := 27) (As := [.int 2]) (rest := []) ⟨hx, hb, hml, hown, hG⟩ (t_BL_requireQueueRoom l E h hfl bl bcs bal barr dk qu qal qarr med cs cal carr bps rqs S.mf cps sv S.ul S.tm S.hd S.up S.wy S.sd S.il S.nn S.hi S.mi S.ev S.ab hS1 (by omega) 2 (by rw [← eq, List.length_map] at hroom; omega) (by decide)) (cwV 1 hG (gV gm509 gm511 gs_BL_requireQueueRoom gm1 gm512) rfl rfl rfl ⟨rfl, hdy_BL_requireQueueRoom⟩ ⟨Nat.le_of_ble_eq_true rfl, Nat.le_of_ble_eq_true rfl⟩) C_BL.1 hb0 hK hZ hP hS hA rfl hl.1 rfl (Nat.le_of_ble_eq_true rfl) d_BL_load_6 ⟨Nat.le_of_ble_eq_true rfl, Nat.le_of_ble_eq_true rfl⟩ hnoh hlocks (Nat.le_of_ble_eq_true rfl) (Nat.le_of_ble_eq_true rfl)

