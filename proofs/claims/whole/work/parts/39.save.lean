/-! THE LAYER, in the model: save. -/
theorem ep_nin {b : Int32} {c0 : tC} : ∀ {bps : List tC}, bps.find? (fun c => c.2.1 == b) = some c0 → (bps.map (·.1)).Nodup → c0.1 ∉ (bps.eraseP (fun c => c.2.1 == b)).map (·.1) := by
  intro bps
  induction bps with
  | nil => intro h; cases h
  | cons c t ih =>
    intro h hn
    rw [List.map_cons, List.nodup_cons] at hn
    by_cases z : (c.2.1 == b) = true
    · rw [List.find?_cons_of_pos (by exact z)] at h
      have hc : c = c0 := Option.some.inj h
      rw [List.eraseP_cons_of_pos (by exact z), ← hc]
      exact hn.1
    · rw [List.find?_cons_of_neg (by exact z)] at h
      rw [List.eraseP_cons_of_neg (by exact z), List.map_cons]
      intro w
      rcases List.mem_cons.mp w with w | w
      · exact hn.1 (List.mem_map.mpr ⟨c0, List.mem_of_find?_eq_some h, w⟩)
      · exact ih h hn.2 w
theorem BLs.put {E : fh_E} {h h1 : fh_H} {bl bcs bal barr barr2 dk qu qal qarr med cs cal carr : Nat} {bps : List tC} {rqs : List tQ} {mf : Nat → Int32} {cps : List tC} {sv : Option tQ} {ul tm hd up wy sd il nn hi mi ev ab : Int32} {c9 : tC}
    (hS : BLs E h bl bcs bal barr dk qu qal qarr med cs cal carr bps rqs mf cps sv ul tm hd up wy sd il nn hi mi ev ab) (e0 : h (fh_ed E) = none) (e1 : h1 (fh_ed E) = none) (g1 : CLs E h1 bcs bal barr2 (bps.eraseP (fun d => d.2.1 == c9.2.1) ++ [c9])) (g2 : LFr h h1 bal barr barr2) (hn : c9.1 ∉ (bps.eraseP (fun d => d.2.1 == c9.2.1)).map (·.1)) (hc : ∀ c ∈ cps, c9.1 ≠ c.1) : BLs E h1 bl bcs bal barr2 dk qu qal qarr med cs cal carr (bps.eraseP (fun d => d.2.1 == c9.2.1) ++ [c9]) rqs mf cps sv ul tm hd up wy sd il nn hi mi ev ab := by
  have F : Fr h h1 (fun b => b = bal ∨ b = barr) := fun b e hb n => by
    refine (g2.1 b (fun z => n (Or.inl z)) (fun z => n (Or.inr z)) (fun z => ?_)).trans hb
    rcases g2.2.1 with w | w
    · exact n (Or.inr (z.trans w))
    · rw [z, w] at hb; cases hb
  obtain ⟨-, -, -, -, -, -, -, a5, a6⟩ := id hS
  refine hS.buf e0 e1 g1 F g2.2.1 ?_ (fun b hb c hc2 => ?_)
  · rw [List.map_append, List.nodup_append]
    refine ⟨a5.sublist (List.eraseP_sublist.map _), by simp, fun a ha c hc2 => ?_⟩
    rw [List.map_singleton, List.mem_singleton] at hc2
    intro z; rw [z, hc2] at ha; exact hn ha
  · rcases List.mem_append.mp hb with z | z
    · exact a6 b (List.mem_of_mem_eraseP z) c hc2
    · rw [List.mem_singleton.mp z]; exact hc c hc2
theorem Inv.wb {S : mS} {t : Nat} {c : mC} (hI : Inv S t) (hc : bOK c.1) (hq : S.q.length < 40) : Inv (wbM S c) t := by
  obtain ⟨i1, i2, i3, i4, i5, i6, i7, i8, i9, i10, i11, i12, i13⟩ := hI
  unfold wbM
  cases hw : wbL c.1 c.2.1 S.q.reverse with
  | none =>
    refine ⟨i1, ?_, i3, fun r hr => ?_, i5, i6, i7, i8, i9, i10, i11, i12, i13⟩
    · show (S.q ++ [_]).length ≤ 40
      rw [List.length_append, List.length_singleton]; omega
    · rcases List.mem_append.mp hr with z | z
      · exact i4 r z
      · rw [List.mem_singleton.mp z]; exact ⟨Or.inr (Or.inl rfl), fun _ => hc⟩
  | some l =>
    have key : ∀ (b v : Int32) (xs ys : List mQ), wbL b v xs = some ys → (∀ r ∈ xs, qOK r) → ys.length = xs.length ∧ ∀ r ∈ ys, qOK r := by
      intro b v xs
      induction xs with
      | nil => intro ys h; cases h
      | cons r t ih =>
        intro ys h hx
        unfold wbL at h
        split at h
        · cases h
        · split at h
          · split at h
            · cases h
              refine ⟨rfl, fun x hx9 => ?_⟩
              rcases List.mem_cons.mp hx9 with rfl | z
              · exact hx r List.mem_cons_self
              · exact hx x (List.mem_cons_of_mem _ z)
            · cases h
          · cases h9 : wbL b v t with
            | none => rw [h9] at h; cases h
            | some zs =>
              rw [h9] at h
              cases h
              obtain ⟨k1, k2⟩ := ih zs h9 (fun x z => hx x (List.mem_cons_of_mem _ z))
              refine ⟨by rw [List.length_cons, List.length_cons, k1], fun x hx9 => ?_⟩
              rcases List.mem_cons.mp hx9 with rfl | z
              · exact hx _ List.mem_cons_self
              · exact k2 x z
    obtain ⟨k1, k2⟩ := key _ _ _ _ hw (fun r z => i4 r (List.mem_reverse.mp z))
    refine ⟨i1, ?_, i3, fun r hr => k2 r (List.mem_reverse.mp hr), i5, i6, i7, i8, i9, i10, i11, i12, i13⟩
    show l.reverse.length ≤ 40
    rw [List.length_reverse, k1, List.length_reverse]; omega
theorem Inv.room {S : mS} {t : Nat} (hI : Inv S t) (hq : S.q.length < 40) : Inv (roomM S) t ∧ (roomM S).bs.length < 10 := by
  have hI0 := hI
  obtain ⟨i1, i2, i3, i4, i5, i6, i7, i8, i9, i10, i11, i12, i13⟩ := hI
  unfold roomM
  by_cases z : S.bs.length < 10
  · rw [if_pos z]; exact ⟨hI0, z⟩
  · rw [if_neg z]
    cases hb : S.bs with
    | nil => rw [hb] at z; exact absurd (by decide) z
    | cons c bt =>
      simp only []
      rw [hb] at i1 i7 i8
      rw [List.map_cons, List.nodup_cons] at i8
      rw [List.length_cons] at i1
      have hE : Inv (evM S bt) t := ⟨by show bt.length ≤ 10; omega, i2, i3, i4, i5, i6, fun c z => i7 c (List.mem_cons_of_mem _ z), i8.2, i9, i10, i11, i12, i13⟩
      have hl : (evM S bt).bs.length < 10 := by show bt.length < 10; omega
      have hl2 : (wbM (evM S bt) c).bs.length < 10 := by
        unfold wbM
        cases wbL c.1 c.2.1 (evM S bt).q.reverse with
        | none => exact hl
        | some l => exact hl
      split
      · exact ⟨hE, hl⟩
      · exact ⟨hE.wb (i7 c List.mem_cons_self) hq, hl2⟩
set_option maxHeartbeats 4000000 in
set_option maxRecDepth 100000 in
theorem c_BL_save (l : Launch) (E : fh_E) (h : fh_H) (bl med : Nat) (S : mS) (t : Nat) (hS0 : ALy E h bl med S) (hI : Inv S t) (n : Nat) (hn : n < 256) (hroom : S.q.length + 2 ≤ 40) (v : Int32) : fh_Met l y_BL_save w_BL_save ({ frames := 11, cells := 6, slots := 167, locals := 279 }) E [.ref bl, .int (nI n), .int v] h (fun r h1 => r = some (.int ((saveM S (nI n) v).2)) ∧ ALy E h1 bl med ((saveM S (nI n) v).1) ∧ KB h h1 med) 6 167 := by
  refine fh_ofW (cc := b_BL_save) (maxL := 5) (ret := (some .int)) (by decide) rfl (Nat.le_of_ble_eq_true rfl) ?_
  intro p e s m below meth c A ls hx hb hr hml hown hts hlocks hname hnoh hadm hA hK hZ hP hS hl
  have hG : ∀ w ∈ G, w.before _ s = true := fun w hw => hts w (List.mem_cons_of_mem _ hw)
  have hown : s.vm.findClass R_BL = some m.cls := hown
  have hl : lv_has ls 5 [(0, .ref bl), (1, .int (nI n)), (2, .int v)] := hl
  obtain ⟨dk, rqs, sv, hB⟩ := hS0
  have hed := hZ.edn hP
  obtain ⟨bcs, bal, barr, qu, qal, qarr, cs, cal, carr, bps, cps, hS1, eb, eq, ec, es⟩ := id hB
  obtain ⟨hb0, hBC, hDK, hap⟩ := id hS1
  obtain ⟨hd0, hQ, hm, hC, hsv, hnd, hqc, hqa⟩ := id hDK
  have kqu := hQ.1
  have kcs := hC.1
  have kbc := hBC.1
  have hb10 : bps.length ≤ 10 := by
    have h9 : (bps.map (·.2)).length ≤ 10 := by rw [eb]; exact hI.bs10
    rw [List.length_map] at h9
    exact h9
  have hq40 : rqs.length ≤ 40 := by
    have h9 : (rqs.map (·.2)).length ≤ 40 := by rw [eq]; exact hI.q40
    rw [List.length_map] at h9
    exact h9
  have hc6 : cps.length ≤ 6 := by
    have h9 : (cps.map (·.2)).length ≤ 6 := by rw [ec]; exact hI.ca6
    rw [List.length_map] at h9
    exact h9
  refine lv_iload_n hx hb d_BL_save_0 rfl (lv_at hl 1 rfl) ?_
  refine fh_callS (y := y_BL_requireBlock) (bytes := b_BL_requireBlock) (maxL := 1) (ret := none) (index := 23) (As := [.int (nI n)]) (rest := []) ⟨hx, hb, hml, hown, hG⟩ (c_BL_requireBlock l E h n hn) ⟨callB_of 1 hG (gB gm440) rfl rfl rfl (hG _ gm1) (hG _ gm438) hdy_BL_requireBlock ⟨Nat.le_of_ble_eq_true rfl, Nat.le_of_ble_eq_true rfl⟩, hG _ gm439⟩ hK hZ hP hS hA rfl hl.1 rfl (Nat.le_of_ble_eq_true rfl) d_BL_save_1 ⟨Nat.le_of_ble_eq_true rfl, Nat.le_of_ble_eq_true rfl⟩ (fun r h1 H locs hq9 hP hS => ?_)
  obtain ⟨rfl, e9⟩ := hq9
  rw [e9] at hP
  refine W.eq (g2 := F0 m 4 ls []) rfl ?_
  refine lv_aload_n hx hb d_BL_save_4 rfl (lv_at hl 0 rfl) ?_
  refine lv_iconst (v := 2) hx hb d_BL_save_5 (by decide) ?_
  refine fh_callV (C := R_BL) (y := y_BL_requireQueueRoom) (bytes := b_BL_requireQueueRoom) (maxL := 2) (ret := none) (index := 27) (As := [.int 2]) (rest := []) ⟨hx, hb, hml, hown, hG⟩ (c_BL_requireQueueRoom l E h bl bcs bal barr dk qu qal qarr med cs cal carr bps rqs S.mf cps sv S.ul S.tm S.hd S.up S.wy S.sd S.il S.nn S.hi S.mi S.ev S.ab hS1 (by omega) 2 (by rw [← eq, List.length_map] at hroom; omega)) (cwV 1 hG (gV gm509 gm511 gs_BL_requireQueueRoom gm1 gm512) rfl rfl rfl ⟨rfl, hdy_BL_requireQueueRoom⟩ ⟨Nat.le_of_ble_eq_true rfl, Nat.le_of_ble_eq_true rfl⟩) C_BL.1 hb0 hK hZ hP hS hA rfl hl.1 rfl (Nat.le_of_ble_eq_true rfl) d_BL_save_6 ⟨Nat.le_of_ble_eq_true rfl, Nat.le_of_ble_eq_true rfl⟩ (fun r h1 H locs hq9 hP hS => ?_)
  obtain ⟨rfl, e9⟩ := hq9
  rw [e9] at hP
  refine W.eq (g2 := F0 m 9 ls []) rfl ?_
  refine lv_aload_n hx hb d_BL_save_9 rfl (lv_at hl 0 rfl) ?_
  refine fh_get hx hb hG C_BL iG_BL hown hK hP hb0 0 (by decide) gm130 rfl d_BL_save_10 ?_
  refine lv_iload_n hx hb d_BL_save_13 rfl (lv_at hl 1 rfl) ?_
  refine fh_callV (C := R_CS) (y := y_CS_copyOf) (bytes := b_CS_copyOf) (maxL := 3) (ret := (some (.object "BlockLayer$Copy"))) (index := 30) (As := [.int (nI n)]) (rest := []) ⟨hx, hb, hml, hown, hG⟩ (c_CS_copyOf l E h bcs bal barr bps hBC (by omega) (nI n)) (cwV 1 hG (gV gm367 gm261 gm262 gm2 gm263) rfl rfl rfl ⟨rfl, hdy_CS_copyOf⟩ ⟨Nat.le_of_ble_eq_true rfl, Nat.le_of_ble_eq_true rfl⟩) C_CS.1 kbc hK hZ hP hS hA rfl hl.1 rfl (Nat.le_of_ble_eq_true rfl) d_BL_save_14 ⟨Nat.le_of_ble_eq_true rfl, Nat.le_of_ble_eq_true rfl⟩ (fun r h1 H locs hq9 hP hS => ?_)
  obtain ⟨rfl, e9⟩ := hq9
  rw [e9] at hP
  refine W.eq (g2 := F0 m 17 ls [va_rf ((bps.find? (fun c => c.2.1 == nI n)).map (·.1))]) rfl ?_
  have hbf : bfM S (nI n) = (bps.find? (fun c => c.2.1 == nI n)).map (·.2) := by
    unfold bfM; rw [← eb, List.find?_map]; rfl
  cases hfd : bps.find? (fun c => c.2.1 == nI n) with
  | some c0 =>
    have hm0 := List.mem_of_find?_eq_some hfd
    have kc := hBC.2.2 c0 hm0
    have hcb : c0.2.1 = nI n := by have := List.find?_some hfd; exact beq_iff_eq.mp this
    refine W.eq (g2 := F0 m 17 ls [.ref c0.1]) (rfl) ?_
    refine lv_astore_n (lv' := [(3, .ref c0.1), (0, .ref bl), (1, .int (nI n)), (2, .int v)]) hx hb d_BL_save_17 rfl hl (by decide) rfl (fun ls hl => ?_)
    refine lv_aload_n hx hb d_BL_save_18 rfl (lv_at hl 0 rfl) ?_
    refine lv_ifnonnull (tgt := 36) hx hb d_BL_save_19 (by decide) ?_
    refine lv_aload_n hx hb d_BL_save_36 rfl (lv_at hl 0 rfl) ?_
    refine fh_get hx hb hG C_CP iG_CP hown hK hP kc 1 (by decide) gm277 rfl d_BL_save_37 ?_
    refine lv_istore (lv' := [(4, .int c0.2.2.1), (3, .ref c0.1), (0, .ref bl), (1, .int (nI n)), (2, .int v)]) hx hb d_BL_save_40 hl (by decide) rfl (fun ls hl => ?_)
    refine lv_aload_n hx hb d_BL_save_42 rfl (lv_at hl 1 rfl) ?_
    refine lv_iload_n hx hb d_BL_save_43 rfl (lv_at hl 4 rfl) ?_
    refine fh_put hx hb hG C_CP iG_CP hown hK hP hS kc 1 (by decide) gm277 rfl (v := .int v) rfl rfl (Nat.le_of_ble_eq_true rfl) d_BL_save_44 (fun H locs hP hS => ?_)
    obtain ⟨h_1, eh_2⟩ : ∃ z : fh_H, z = va_up h c0.1 (some (.inr (1, [.int c0.2.1, .int v, .int c0.2.2.2]))) := ⟨_, rfl⟩
    have hP : fh_P E.1 vwCl A h_1 H := by rw [eh_2]; exact hP
    have k_3 : h_1 bl = some (.inr (6, [.ref bcs, .ref dk, .int S.nn, .int S.hi, .int S.mi, .int S.ev, .int S.ab])) := by rw [eh_2]; exact fh_up hb0 (fh_ne hb0 kc (by decide))
    have k_4 : h_1 dk = some (.inr (5, [.ref qu, .ref med, .ref cs, va_rf (sv.map (·.1)), .int S.ul, .int S.tm, .int S.hd, .int S.up, .int S.wy, .int S.sd, .int S.il])) := by rw [eh_2]; exact fh_up hd0 (fh_ne hd0 kc (by decide))
    have k_5 : h_1 qu = some (.inr (4, [.ref qal])) := by rw [eh_2]; exact fh_up kqu (fh_ne kqu kc (by decide))
    have k_6 : h_1 cs = some (.inr (2, [.ref cal])) := by rw [eh_2]; exact fh_up kcs (fh_ne kcs kc (by decide))
    have k_7 : h_1 bcs = some (.inr (2, [.ref bal])) := by rw [eh_2]; exact fh_up kbc (fh_ne kbc kc (by decide))
    have k_8 : h_1 c0.1 = some (.inr (1, [.int c0.2.1, .int v, .int c0.2.2.2])) := by rw [eh_2]; exact va_up_self _ _ _
    refine lv_aload_n hx hb d_BL_save_47 rfl (lv_at hl 1 rfl) ?_
    refine lv_iconst (v := 1) hx hb d_BL_save_48 (by decide) ?_
    refine fh_put hx hb hG C_CP iG_CP hown hK hP hS k_8 2 (by decide) gm279 rfl (v := .int 1) rfl rfl (Nat.le_of_ble_eq_true rfl) d_BL_save_49 (fun H locs hP hS => ?_)
    obtain ⟨h_9, eh_10⟩ : ∃ z : fh_H, z = va_up h_1 c0.1 (some (.inr (1, [.int c0.2.1, .int v, .int 1]))) := ⟨_, rfl⟩
    have hP : fh_P E.1 vwCl A h_9 H := by rw [eh_10]; exact hP
    have k_11 : h_9 bl = some (.inr (6, [.ref bcs, .ref dk, .int S.nn, .int S.hi, .int S.mi, .int S.ev, .int S.ab])) := by rw [eh_10]; exact fh_up k_3 (fh_ne k_3 k_8 (by decide))
    have k_12 : h_9 dk = some (.inr (5, [.ref qu, .ref med, .ref cs, va_rf (sv.map (·.1)), .int S.ul, .int S.tm, .int S.hd, .int S.up, .int S.wy, .int S.sd, .int S.il])) := by rw [eh_10]; exact fh_up k_4 (fh_ne k_4 k_8 (by decide))
    have k_13 : h_9 qu = some (.inr (4, [.ref qal])) := by rw [eh_10]; exact fh_up k_5 (fh_ne k_5 k_8 (by decide))
    have k_14 : h_9 cs = some (.inr (2, [.ref cal])) := by rw [eh_10]; exact fh_up k_6 (fh_ne k_6 k_8 (by decide))
    have k_15 : h_9 bcs = some (.inr (2, [.ref bal])) := by rw [eh_10]; exact fh_up k_7 (fh_ne k_7 k_8 (by decide))
    have k_16 : h_9 c0.1 = some (.inr (1, [.int c0.2.1, .int v, .int 1])) := by rw [eh_10]; exact va_up_self _ _ _
    have e8 : h_9 = va_up h c0.1 (some (.inr (1, [.int c0.2.1, .int v, .int 1]))) := by rw [eh_10, eh_2, bx_uu]
    have ed2 := hZ.edn hP
    have S2 := hS1.stC hed ed2 hm0 e8
    refine lv_aload_n hx hb d_BL_save_52 rfl (lv_at hl 2 rfl) ?_
    refine fh_get hx hb hG C_BL iG_BL hown hK hP k_11 0 (by decide) gm130 rfl d_BL_save_53 ?_
    refine lv_aload_n hx hb d_BL_save_56 rfl (lv_at hl 1 rfl) ?_
    refine fh_callV (C := R_CS) (y := y_CS_putLast) (bytes := b_CS_putLast) (maxL := 3) (ret := none) (index := 65) (As := [.ref c0.1]) (rest := []) ⟨hx, hb, hml, hown, hG⟩ (c_CS_putLast l E h_9 bcs bal barr _ S2.2.1 (by rw [setC_len]; omega) (c0.1, c0.2.1, v, 1) k_16) (cwV 1 hG (gV gm591 gm289 gm290 gm2 gm291) rfl rfl rfl ⟨rfl, hdy_CS_putLast⟩ ⟨Nat.le_of_ble_eq_true rfl, Nat.le_of_ble_eq_true rfl⟩) C_CS.1 k_15 hK hZ hP hS hA rfl hl.1 rfl (Nat.le_of_ble_eq_true rfl) d_BL_save_57 ⟨Nat.le_of_ble_eq_true rfl, Nat.le_of_ble_eq_true rfl⟩ (fun r h3 H locs hq9 hP hS => ?_)
    obtain ⟨rfl, barr2, g1, g2⟩ := hq9
    refine W.eq (g2 := F0 m 60 ls []) rfl ?_
    refine lv_iload hx hb d_BL_save_60 (lv_at hl 0 rfl) ?_
    have ed3 := hZ.edn hP
    have ei : (setC bps c0.1 v 1).eraseP (fun d => d.2.1 == c0.2.1) = bps.eraseP (fun d => d.2.1 == c0.2.1) := setC_er (by rw [hcb]; exact hfd) hap.2.2.2.2.1
    have S3 := S2.put (c9 := (c0.1, c0.2.1, v, 1)) ed2 ed3 g1 g2 (by show c0.1 ∉ _; rw [ei]; exact ep_nin (by rw [hcb]; exact hfd) hap.2.2.2.2.1) (fun c hc => hap.2.2.2.2.2 c0 hm0 c hc)
    have es9 : saveM S (nI n) v = (putM S (nI n) v 1, c0.2.2.1) := by unfold saveM; rw [hbf, hfd]; rfl
    exact fh_iret hx hb hr hlocks (Nat.le_of_ble_eq_true rfl) (Nat.le_of_ble_eq_true rfl) hP hS ⟨by rw [es9], ⟨dk, rqs, sv, bcs, bal, barr2, qu, qal, qarr, cs, cal, carr, _, cps, by rw [es9]; exact S3, by rw [es9]; show ((setC bps c0.1 v 1).eraseP (fun d : tC => d.2.1 == c0.2.1) ++ [((c0.1, c0.2.1, v, 1) : tC)]).map (fun x : tC => x.2) = S.bs.eraseP (fun c => c.1 == nI n) ++ [(nI n, v, 1)]; rw [ei, List.map_append, hcb, ep_map, eb]; rfl, by rw [es9]; exact eq, by rw [es9]; exact ec, by rw [es9]; exact es⟩, (KB.up kc (by decide) e8).trans (KB.lfr S2.2.1.2.1 ed2 g2)⟩ d_BL_save_62
  | none =>
    refine W.eq (g2 := F0 m 17 ls [.null]) (rfl) ?_
    refine lv_astore_nN (lv' := [(3, .null), (0, .ref bl), (1, .int (nI n)), (2, .int v)]) hx hb d_BL_save_17 rfl hl (by decide) rfl (fun ls hl => ?_)
    refine lv_aload_nN hx hb d_BL_save_18 rfl (lv_at hl 0 rfl) ?_
    refine lv_ifnonnullN hx hb d_BL_save_19 ?_
    refine lv_aload_n hx hb d_BL_save_22 rfl (lv_at hl 1 rfl) ?_
    refine fh_callV (C := R_BL) (y := y_BL_makeBufferRoom) (bytes := b_BL_makeBufferRoom) (maxL := 2) (ret := none) (index := 38) (As := []) (rest := []) ⟨hx, hb, hml, hown, hG⟩ (c_room l E h bl dk med rqs sv S t hB hI) (cwV 0 hG (gV gm529 gm531 gs_BL_makeBufferRoom gm1 gm532) rfl rfl rfl ⟨rfl, hdy_BL_makeBufferRoom⟩ ⟨Nat.le_of_ble_eq_true rfl, Nat.le_of_ble_eq_true rfl⟩) C_BL.1 hb0 hK hZ hP hS hA rfl hl.1 rfl (Nat.le_of_ble_eq_true rfl) d_BL_save_23 ⟨Nat.le_of_ble_eq_true rfl, Nat.le_of_ble_eq_true rfl⟩ (fun r h1 H locs hq9 hP hS => ?_)
    obtain ⟨rfl, rqs, B2, K2⟩ := hq9
    have ed1 := hZ.edn hP
    refine W.eq (g2 := F0 m 26 ls []) rfl ?_
    have hI := (hI.room (by omega)).1
    obtain ⟨bcs, bal, barr, qu, qal, qarr, cs, cal, carr, bps, cps, hS1, eb, eq, ec, es⟩ := id B2
    obtain ⟨hb0, hBC, hDK, hap⟩ := id hS1
    obtain ⟨hd0, hQ, hm, hC, hsv, hnd, hqc, hqa⟩ := id hDK
    have kqu := hQ.1
    have kcs := hC.1
    have kbc := hBC.1
    have hb10 : bps.length ≤ 10 := by
      have h9 : (bps.map (·.2)).length ≤ 10 := by rw [eb]; exact hI.bs10
      rw [List.length_map] at h9
      exact h9
    have hq40 : rqs.length ≤ 40 := by
      have h9 : (rqs.map (·.2)).length ≤ 40 := by rw [eq]; exact hI.q40
      rw [List.length_map] at h9
      exact h9
    have hc6 : cps.length ≤ 6 := by
      have h9 : (cps.map (·.2)).length ≤ 6 := by rw [ec]; exact hI.ca6
      rw [List.length_map] at h9
      exact h9
    refine fh_new hx hb hG C_CP iG_CP hown gm589 gm267 gm21 hK hP hS hA (fs := [.int 0, .int 0, .int 0]) (fun j hj => by rcases (show j = 0 ∨ j = 1 ∨ j = 2 by omega) with rfl | rfl | rfl <;> rfl) (Nat.le_of_ble_eq_true rfl) (Nat.le_of_ble_eq_true rfl) d_BL_save_26 (fun q H hf_17 hP hS => ?_)
    obtain ⟨h_18, eh_19⟩ : ∃ z : fh_H, z = va_up h1 q (some (.inr (1, [.int 0, .int 0, .int 0]))) := ⟨_, rfl⟩
    have hP : fh_P E.1 vwCl A h_18 H := by rw [eh_19]; exact hP
    have k_20 : h_18 bl = some (.inr (6, [.ref bcs, .ref dk, .int (roomM S).nn, .int (roomM S).hi, .int (roomM S).mi, .int (roomM S).ev, .int (roomM S).ab])) := by rw [eh_19]; exact fh_up hb0 (fh_neF hb0 hf_17)
    have k_21 : h_18 dk = some (.inr (5, [.ref qu, .ref med, .ref cs, va_rf (sv.map (·.1)), .int (roomM S).ul, .int (roomM S).tm, .int (roomM S).hd, .int (roomM S).up, .int (roomM S).wy, .int (roomM S).sd, .int (roomM S).il])) := by rw [eh_19]; exact fh_up hd0 (fh_neF hd0 hf_17)
    have k_22 : h_18 qu = some (.inr (4, [.ref qal])) := by rw [eh_19]; exact fh_up kqu (fh_neF kqu hf_17)
    have k_23 : h_18 cs = some (.inr (2, [.ref cal])) := by rw [eh_19]; exact fh_up kcs (fh_neF kcs hf_17)
    have k_24 : h_18 bcs = some (.inr (2, [.ref bal])) := by rw [eh_19]; exact fh_up kbc (fh_neF kbc hf_17)
    have k_25 : h_18 q = some (.inr (1, [.int 0, .int 0, .int 0])) := by rw [eh_19]; exact va_up_self _ _ _
    refine lv_dup hx hb d_BL_save_29 rfl ?_
    refine lv_iload_n hx hb d_BL_save_30 rfl (lv_at hl 2 rfl) ?_
    refine lv_iconst (v := 0) hx hb d_BL_save_31 (by decide) ?_
    refine fh_callI (b := q) (y := y_CP_init) (bytes := b_CP_init) (maxL := 3) (index := 59) (As := [.int (nI n), .int 0]) (rest := [.ref q]) ⟨hx, hb, hml, hown, hG⟩ (c_CP_init l E h_18 q (nI n) 0 _ _ _ k_25) (cwI 2 hG (gB gm270) rfl rfl rfl (hG _ gm21) (hG _ gm590) (hG _ gm269) rfl hdy_CP_init ⟨Nat.le_of_ble_eq_true rfl, Nat.le_of_ble_eq_true rfl⟩) hK hZ hP hS hA rfl hl.1 rfl (Nat.le_of_ble_eq_true rfl) d_BL_save_32 ⟨Nat.le_of_ble_eq_true rfl, Nat.le_of_ble_eq_true rfl⟩ (fun r h2 H locs hq9 hP hS => ?_)
    obtain ⟨rfl, e9⟩ := hq9
    refine W.eq (g2 := F0 m 35 ls [.ref q]) rfl ?_
    have k9 : h2 q = some (.inr (1, [.int (nI n), .int 0, .int 0])) := by rw [e9]; exact va_up_self _ _ _
    refine lv_astore_n (lv' := [(3, .ref q), (0, .ref bl), (1, .int (nI n)), (2, .int v)]) hx hb d_BL_save_35 rfl hl (by decide) rfl (fun ls hl => ?_)
    refine lv_aload_n hx hb d_BL_save_36 rfl (lv_at hl 0 rfl) ?_
    refine fh_get hx hb hG C_CP iG_CP hown hK hP k9 1 (by decide) gm277 rfl d_BL_save_37 ?_
    refine lv_istore (lv' := [(4, .int 0), (3, .ref q), (0, .ref bl), (1, .int (nI n)), (2, .int v)]) hx hb d_BL_save_40 hl (by decide) rfl (fun ls hl => ?_)
    refine lv_aload_n hx hb d_BL_save_42 rfl (lv_at hl 1 rfl) ?_
    refine lv_iload_n hx hb d_BL_save_43 rfl (lv_at hl 4 rfl) ?_
    refine fh_put hx hb hG C_CP iG_CP hown hK hP hS k9 1 (by decide) gm277 rfl (v := .int v) rfl rfl (Nat.le_of_ble_eq_true rfl) d_BL_save_44 (fun H locs hP hS => ?_)
    obtain ⟨h_26, eh_27⟩ : ∃ z : fh_H, z = va_up h2 q (some (.inr (1, [.int (nI n), .int v, .int 0]))) := ⟨_, rfl⟩
    have hP : fh_P E.1 vwCl A h_26 H := by rw [eh_27]; exact hP
    have k_28 : h_26 q = some (.inr (1, [.int (nI n), .int v, .int 0])) := by rw [eh_27]; exact va_up_self _ _ _
    refine lv_aload_n hx hb d_BL_save_47 rfl (lv_at hl 1 rfl) ?_
    refine lv_iconst (v := 1) hx hb d_BL_save_48 (by decide) ?_
    refine fh_put hx hb hG C_CP iG_CP hown hK hP hS k_28 2 (by decide) gm279 rfl (v := .int 1) rfl rfl (Nat.le_of_ble_eq_true rfl) d_BL_save_49 (fun H locs hP hS => ?_)
    obtain ⟨h_29, eh_30⟩ : ∃ z : fh_H, z = va_up h_26 q (some (.inr (1, [.int (nI n), .int v, .int 1]))) := ⟨_, rfl⟩
    have hP : fh_P E.1 vwCl A h_29 H := by rw [eh_30]; exact hP
    have k_31 : h_29 q = some (.inr (1, [.int (nI n), .int v, .int 1])) := by rw [eh_30]; exact va_up_self _ _ _
    have e8 : h_29 = va_up h1 q (some (.inr (1, [.int (nI n), .int v, .int 1]))) := by rw [eh_30, eh_27, bx_uu, e9, bx_uu, eh_19, bx_uu]
    have ed3 := hZ.edn hP
    have S3 := hS1.ext ed3 hf_17 e8
    obtain ⟨kb3, kB3, kD3, kap3⟩ := id S3
    have kbc3 := kB3.1
    refine lv_aload_n hx hb d_BL_save_52 rfl (lv_at hl 2 rfl) ?_
    refine fh_get hx hb hG C_BL iG_BL hown hK hP kb3 0 (by decide) gm130 rfl d_BL_save_53 ?_
    refine lv_aload_n hx hb d_BL_save_56 rfl (lv_at hl 1 rfl) ?_
    refine fh_callV (C := R_CS) (y := y_CS_putLast) (bytes := b_CS_putLast) (maxL := 3) (ret := none) (index := 65) (As := [.ref q]) (rest := []) ⟨hx, hb, hml, hown, hG⟩ (c_CS_putLast l E h_29 bcs bal barr bps kB3 (by omega) (q, nI n, v, 1) k_31) (cwV 1 hG (gV gm591 gm289 gm290 gm2 gm291) rfl rfl rfl ⟨rfl, hdy_CS_putLast⟩ ⟨Nat.le_of_ble_eq_true rfl, Nat.le_of_ble_eq_true rfl⟩) C_CS.1 kbc3 hK hZ hP hS hA rfl hl.1 rfl (Nat.le_of_ble_eq_true rfl) d_BL_save_57 ⟨Nat.le_of_ble_eq_true rfl, Nat.le_of_ble_eq_true rfl⟩ (fun r h4 H locs hq9 hP hS => ?_)
    obtain ⟨rfl, barr2, g1, g2⟩ := hq9
    refine W.eq (g2 := F0 m 60 ls []) rfl ?_
    refine lv_iload hx hb d_BL_save_60 (lv_at hl 0 rfl) ?_
    have ed4 := hZ.edn hP
    have S4 := S3.put (c9 := (q, nI n, v, 1)) ed3 ed4 g1 g2 (fun w => by
      obtain ⟨c, hc, z⟩ := List.mem_map.mp w
      exact fh_neF (hBC.2.2 c (List.mem_of_mem_eraseP hc)) hf_17 z) (fun c hc => Ne.symm (fh_neF (hC.2.2 c hc) hf_17))
    have es9 : saveM S (nI n) v = (putM (roomM S) (nI n) v 1, 0) := by unfold saveM; rw [hbf, hfd]; rfl
    exact fh_iret hx hb hr hlocks (Nat.le_of_ble_eq_true rfl) (Nat.le_of_ble_eq_true rfl) hP hS ⟨by rw [es9], ⟨dk, rqs, sv, bcs, bal, barr2, qu, qal, qarr, cs, cal, carr, _, cps, by rw [es9]; exact S4, by rw [es9]; show (bps.eraseP (fun d : tC => d.2.1 == nI n) ++ [((q, nI n, v, 1) : tC)]).map (fun x : tC => x.2) = (roomM S).bs.eraseP (fun c => c.1 == nI n) ++ [(nI n, v, 1)]; rw [List.map_append, ep_map, eb]; rfl, by rw [es9]; exact eq, by rw [es9]; exact ec, by rw [es9]; exact es⟩, (K2.trans (KB.fresh hf_17 e8)).trans (KB.lfr kB3.2.1 ed3 g2)⟩ d_BL_save_62

set_option maxHeartbeats 4000000 in
set_option maxRecDepth 100000 in
theorem t_BL_save_b (l : Launch) (E : fh_E) (h : fh_H) (hfl : l.flags = pinnedFlags ++ [noTraceFlag]) (bl : Nat) (b : Int32) (v : Int32) (hn : b.toInt < 0 ∨ (256 : Int) ≤ b.toInt) : th_M l y_BL_save w_BL_save ({ frames := 11, cells := 6, slots := 167, locals := 279 }) E [.ref bl, .int b, .int v] h xIOB 6 167 := by
  refine th_ofWh (cc := b_BL_save) (maxL := 5) (ret := (some .int)) (by decide) rfl (Nat.le_of_ble_eq_true rfl) ?_
  intro p e s m below meth c A ls hx hb hr hml hown hts hlocks hname hnoh hadm hA hK hZ hP hS hl
  have hG : ∀ w ∈ G, w.before _ s = true := fun w hw => hts w (List.mem_cons_of_mem _ hw)
  have hown : s.vm.findClass R_BL = some m.cls := hown
  have hl : lv_has ls 5 [(0, .ref bl), (1, .int b), (2, .int v)] := hl
  refine lv_iload_n hx hb d_BL_save_0 rfl (lv_at hl 1 rfl) ?_
  exact th_callS (y := y_BL_requireBlock) (bytes := b_BL_requireBlock) (maxL := 1) (ret := none) (index := 23) (As := [.int b]) (rest := []) ⟨hx, hb, hml, hown, hG⟩ (t_BL_requireBlock l E h hfl b hn) ⟨callB_of 1 hG (gB gm440) rfl rfl rfl (hG _ gm1) (hG _ gm438) hdy_BL_requireBlock ⟨Nat.le_of_ble_eq_true rfl, Nat.le_of_ble_eq_true rfl⟩, hG _ gm439⟩ hK hZ hP hS hA rfl hl.1 rfl (Nat.le_of_ble_eq_true rfl) d_BL_save_1 ⟨Nat.le_of_ble_eq_true rfl, Nat.le_of_ble_eq_true rfl⟩ hnoh hlocks (Nat.le_of_ble_eq_true rfl) (Nat.le_of_ble_eq_true rfl)

set_option maxHeartbeats 4000000 in
set_option maxRecDepth 100000 in
theorem t_BL_save_q (l : Launch) (E : fh_E) (h : fh_H) (bl med : Nat) (S : mS) (t : Nat) (hfl : l.flags = pinnedFlags ++ [noTraceFlag]) (hS0 : ALy E h bl med S) (hI : Inv S t) (n : Nat) (hn : n < 256) (hroom : 40 < S.q.length + 2) (v : Int32)  : th_M l y_BL_save w_BL_save ({ frames := 11, cells := 6, slots := 167, locals := 279 }) E [.ref bl, .int (nI n), .int v] h xUOE 6 167 := by
  refine th_ofWh (cc := b_BL_save) (maxL := 5) (ret := (some .int)) (by decide) rfl (Nat.le_of_ble_eq_true rfl) ?_
  intro p e s m below meth c A ls hx hb hr hml hown hts hlocks hname hnoh hadm hA hK hZ hP hS hl
  have hG : ∀ w ∈ G, w.before _ s = true := fun w hw => hts w (List.mem_cons_of_mem _ hw)
  have hown : s.vm.findClass R_BL = some m.cls := hown
  have hl : lv_has ls 5 [(0, .ref bl), (1, .int (nI n)), (2, .int v)] := hl
  obtain ⟨dk, rqs, sv, hB⟩ := hS0
  obtain ⟨bcs, bal, barr, qu, qal, qarr, cs, cal, carr, bps, cps, hS1, eb, eq, ec, es⟩ := id hB
  obtain ⟨hb0, hBC, hDK, hap⟩ := id hS1
  obtain ⟨hd0, hQ, hm, hC, hsv, hnd, hqc, hqa⟩ := id hDK
  have kqu := hQ.1
  have kcs := hC.1
  have kbc := hBC.1
  have hb10 : bps.length ≤ 10 := by
    have h9 : (bps.map (·.2)).length ≤ 10 := by rw [eb]; exact hI.bs10
    rw [List.length_map] at h9
    exact h9
  have hq40 : rqs.length ≤ 40 := by
    have h9 : (rqs.map (·.2)).length ≤ 40 := by rw [eq]; exact hI.q40
    rw [List.length_map] at h9
    exact h9
  have hc6 : cps.length ≤ 6 := by
    have h9 : (cps.map (·.2)).length ≤ 6 := by rw [ec]; exact hI.ca6
    rw [List.length_map] at h9
    exact h9
  refine lv_iload_n hx hb d_BL_save_0 rfl (lv_at hl 1 rfl) ?_
  refine fh_callS (y := y_BL_requireBlock) (bytes := b_BL_requireBlock) (maxL := 1) (ret := none) (index := 23) (As := [.int (nI n)]) (rest := []) ⟨hx, hb, hml, hown, hG⟩ (c_BL_requireBlock l E h n hn) ⟨callB_of 1 hG (gB gm440) rfl rfl rfl (hG _ gm1) (hG _ gm438) hdy_BL_requireBlock ⟨Nat.le_of_ble_eq_true rfl, Nat.le_of_ble_eq_true rfl⟩, hG _ gm439⟩ hK hZ hP hS hA rfl hl.1 rfl (Nat.le_of_ble_eq_true rfl) d_BL_save_1 ⟨Nat.le_of_ble_eq_true rfl, Nat.le_of_ble_eq_true rfl⟩ (fun r h1 H locs hq9 hP hS => ?_)
  obtain ⟨rfl, e9⟩ := hq9
  rw [e9] at hP
  refine W.eq (g2 := F0 m 4 ls []) rfl ?_
  refine lv_aload_n hx hb d_BL_save_4 rfl (lv_at hl 0 rfl) ?_
  refine lv_iconst (v := 2) hx hb d_BL_save_5 (by decide) ?_
  exact th_callV (C := R_BL) (y := y_BL_requireQueueRoom) (bytes := b_BL_requireQueueRoom) (maxL := 2) (ret := none) (index := 27) (As := [.int 2]) (rest := []) ⟨hx, hb, hml, hown, hG⟩ (t_BL_requireQueueRoom l E h hfl bl bcs bal barr dk qu qal qarr med cs cal carr bps rqs S.mf cps sv S.ul S.tm S.hd S.up S.wy S.sd S.il S.nn S.hi S.mi S.ev S.ab hS1 (by omega) 2 (by rw [← eq, List.length_map] at hroom; omega) (by decide)) (cwV 1 hG (gV gm509 gm511 gs_BL_requireQueueRoom gm1 gm512) rfl rfl rfl ⟨rfl, hdy_BL_requireQueueRoom⟩ ⟨Nat.le_of_ble_eq_true rfl, Nat.le_of_ble_eq_true rfl⟩) C_BL.1 hb0 hK hZ hP hS hA rfl hl.1 rfl (Nat.le_of_ble_eq_true rfl) d_BL_save_6 ⟨Nat.le_of_ble_eq_true rfl, Nat.le_of_ble_eq_true rfl⟩ hnoh hlocks (Nat.le_of_ble_eq_true rfl) (Nat.le_of_ble_eq_true rfl)

