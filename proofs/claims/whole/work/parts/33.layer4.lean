/-! THE LAYER: write back, room for a buffer. -/
def setV (rqs : List tQ) (a : Nat) (v : Int32) : List tQ := rqs.map (fun r => if r.1 = a then (r.1, r.2.1, r.2.2.1, r.2.2.2.1, r.2.2.2.2.1, v) else r)
theorem setV_fst (rqs : List tQ) (a : Nat) (v : Int32) : (setV rqs a v).map (·.1) = rqs.map (·.1) := by
  unfold setV
  rw [List.map_map]
  refine List.map_congr_left (fun r _ => ?_)
  show (if r.1 = a then _ else r).1 = r.1
  by_cases z : r.1 = a
  · rw [if_pos z]
  · rw [if_neg z]
theorem setV_len (rqs : List tQ) (a : Nat) (v : Int32) : (setV rqs a v).length = rqs.length := List.length_map _
def setC (bps : List tC) (a : Nat) (v d : Int32) : List tC := bps.map (fun c => if c.1 = a then (c.1, c.2.1, v, d) else c)
theorem setC_fst (bps : List tC) (a : Nat) (v d : Int32) : (setC bps a v d).map (·.1) = bps.map (·.1) := by
  unfold setC
  rw [List.map_map]
  refine List.map_congr_left (fun r _ => ?_)
  show (if r.1 = a then _ else r).1 = r.1
  by_cases z : r.1 = a
  · rw [if_pos z]
  · rw [if_neg z]
theorem setC_len (bps : List tC) (a : Nat) (v d : Int32) : (setC bps a v d).length = bps.length := List.length_map _
theorem setC_id {bps : List tC} {a : Nat} {v d : Int32} (h : a ∉ bps.map (·.1)) : setC bps a v d = bps := by
  unfold setC
  refine (List.map_congr_left (g := id) (fun r hr => ?_)).trans (List.map_id _)
  exact if_neg (fun z => h (List.mem_map.mpr ⟨r, hr, z⟩))
theorem setC_er {b v d : Int32} {c0 : tC} : ∀ {bps : List tC}, bps.find? (fun c => c.2.1 == b) = some c0 → (bps.map (·.1)).Nodup → (setC bps c0.1 v d).eraseP (fun c => c.2.1 == b) = bps.eraseP (fun c => c.2.1 == b) := by
  intro bps
  induction bps with
  | nil => intro h; cases h
  | cons c t ih =>
    intro h hn
    rw [List.map_cons, List.nodup_cons] at hn
    by_cases z : (c.2.1 == b) = true
    · rw [List.find?_cons_of_pos (by exact z)] at h
      cases h
      have : setC (c0 :: t) c0.1 v d = (c0.1, c0.2.1, v, d) :: setC t c0.1 v d := by
        show (if c0.1 = c0.1 then _ else c0) :: _ = _
        rw [if_pos rfl]; rfl
      rw [this, List.eraseP_cons_of_pos (by exact z), List.eraseP_cons_of_pos (by exact z)]
      exact setC_id hn.1
    · rw [List.find?_cons_of_neg (by exact z)] at h
      have hne : ¬ c.1 = c0.1 := fun w => hn.1 (List.mem_map.mpr ⟨c0, List.mem_of_find?_eq_some h, w.symm⟩)
      have : setC (c :: t) c0.1 v d = c :: setC t c0.1 v d := by
        show (if c.1 = c0.1 then _ else c) :: _ = _
        rw [if_neg hne]; rfl
      rw [this, List.eraseP_cons_of_neg (by exact z), List.eraseP_cons_of_neg (by exact z), ih h hn.2]
section BK2
variable {E : fh_E} {h h1 : fh_H} {bl bcs bal barr dk qu qal qarr med cs cal carr : Nat} {bps : List tC} {rqs : List tQ} {mf : Nat → Int32} {cps : List tC} {sv : Option tQ} {ul tm hd up wy sd il nn hi mi ev ab : Int32}
/-- a waiting request's value is another -/
theorem DKs.stV {r0 : tQ} {v : Int32} (hD : DKs E h dk qu qal qarr med cs cal carr rqs mf cps sv ul tm hd up wy sd il) (e0 : h (fh_ed E) = none) (e1 : h1 (fh_ed E) = none) (hr0 : r0 ∈ rqs) (hh : h1 = va_up h r0.1 (some (.inr (3, [.int r0.2.1, .int r0.2.2.1, .int r0.2.2.2.1, .int r0.2.2.2.2.1, .int v, .int 0])))) : DKs E h1 dk qu qal qarr med cs cal carr (setV rqs r0.1 v) mf cps sv ul tm hd up wy sd il := by
  obtain ⟨hd0, hQ, hm, hC, hsv, hnd, hqc, hqa⟩ := hD
  obtain ⟨m1, kq⟩ := hQ.2.1.al
  obtain ⟨m2, kc⟩ := hC.2.1.al
  have k0 := hQ.2.2 r0 hr0
  have F : Fr h h1 (fun b => b = r0.1) := fun b e hb n => by rw [hh, va_up_ne _ _ n]; exact hb
  refine ⟨F _ _ hd0 (fh_ne hd0 k0 (by decide)), ⟨F _ _ hQ.1 (fh_ne hQ.1 k0 (by decide)), ?_, fun r hr => ?_⟩, F _ _ hm (fh_neA hm k0), hC.keep F (fh_ne hC.1 k0 (by decide)) (fh_ne kc k0 (by decide)) (fun e he z => hC.2.1.neO e0 k0 z.symm) (fun r hr => fh_ne (hC.2.2 r hr) k0 (by decide)), fun r z => ⟨F _ _ (hsv r z).1 (fun w => (hsv r z).2 (List.mem_map.mpr ⟨r0, hr0, w.symm⟩)), by rw [setV_fst]; exact (hsv r z).2⟩, by rw [setV_fst]; exact hnd, hqc, fun x hx => ?_⟩
  · rw [setV_fst]
    exact hQ.2.1.frame ((F _ _ kq (fh_ne kq k0 (by decide))).trans kq.symm) (fun ⟨x, hx⟩ => (F _ _ hx (fun z => hQ.2.1.neO e0 k0 z.symm)).trans hx.symm)
  · obtain ⟨r', hr', rfl⟩ := List.mem_map.mp hr
    by_cases z : r'.1 = r0.1
    · rw [if_pos z]
      have k1 := hQ.2.2 r' hr'
      rw [z, k0] at k1
      simp only [Option.some.injEq, Sum.inr.injEq, Prod.mk.injEq, List.cons.injEq, Value.int.injEq, true_and, and_true] at k1
      obtain ⟨q1, q2, q3, q4, q5⟩ := k1
      show h1 r'.1 = _
      rw [z, hh, va_up_self, q1, q2, q3, q4]
    · rw [if_neg z]
      exact F _ _ (hQ.2.2 r' hr') z
  · obtain ⟨y, hy⟩ := hQ.2.1.back e1 hx
    exact hqa _ hy
/-- the buffers' list is another -/
theorem BLs.buf {barr2 : Nat} {bps2 : List tC} (hS : BLs E h bl bcs bal barr dk qu qal qarr med cs cal carr bps rqs mf cps sv ul tm hd up wy sd il nn hi mi ev ab) (e0 : h (fh_ed E) = none) (e1 : h1 (fh_ed E) = none) (hC2 : CLs E h1 bcs bal barr2 bps2) (F : Fr h h1 (fun b => b = bal ∨ b = barr)) (N : NewA h barr barr2) (n2 : (bps2.map (·.1)).Nodup) (c2 : ∀ b ∈ bps2, ∀ c ∈ cps, b.1 ≠ c.1) : BLs E h1 bl bcs bal barr2 dk qu qal qarr med cs cal carr bps2 rqs mf cps sv ul tm hd up wy sd il nn hi mi ev ab := by
  obtain ⟨hb0, hBC, hDK, a1, a2, a3, a4, a5, a6⟩ := hS
  have hDK0 := hDK
  obtain ⟨hd0, hQ, hm, hC, hsv, hnd, hqc, hqa⟩ := hDK
  obtain ⟨m1, kq⟩ := hQ.2.1.al
  obtain ⟨m2, kc⟩ := hC.2.1.al
  obtain ⟨m3, kb⟩ := hBC.2.1.al
  have ob : ∀ {a i : Nat} {fs : List Value}, h a = some (.inr (i, fs)) → (i = 0 → a ≠ bal) → ¬ (a = bal ∨ a = barr) := by
    intro a i fs ha i0 z
    rcases z with z | z
    · by_cases w : i = 0
      · exact i0 w z
      · exact fh_ne ha kb w z
    · exact hBC.2.1.neO e0 ha z
  refine ⟨F _ _ hb0 (ob hb0 (fun z => by cases z)), hC2, hDK0.keep e1 F (ob hd0 (fun z => by cases z)) (ob hQ.1 (fun z => by cases z)) (ob kq (fun _ z => a3 z.symm)) (fun e he z => z.elim (fun z => hQ.2.1.neO e0 kb z.symm) (fun z => (a4 e (by rw [← z]; exact he)).2 z.symm)) (fun r hr => ob (hQ.2.2 r hr) (fun z => by cases z)) (fun z => z.elim (fun z => fh_neA hm kb z) (fun z => hBC.2.1.neI e0 hm z)) (ob hC.1 (fun z => by cases z)) (ob kc (fun _ z => a2 z.symm)) (fun e he z => z.elim (fun z => hC.2.1.neO e0 kb z.symm) (fun z => (a4 e (by rw [← z]; exact he)).1 z.symm)) (fun r hr => ob (hC.2.2 r hr) (fun z => by cases z)) (fun r z => ob (hsv r z).1 (fun z => by cases z)), a1, a2, a3, fun x hx => ?_, n2, c2⟩
  rcases N with w | w
  · rw [w] at hx ⊢
    obtain ⟨y, hy⟩ := hBC.2.1.back e1 hx
    exact a4 _ hy
  · refine ⟨fun z => ?_, fun z => ?_⟩
    · rcases hC.2.1.or with v | ⟨y, v⟩
      · rw [z, v, e1] at hx; cases hx
      · rw [z, v] at w; cases w
    · rcases hQ.2.1.or with v | ⟨y, v⟩
      · rw [z, v, e1] at hx; cases hx
      · rw [z, v] at w; cases w
/-- a buffer's value and mark are others -/
theorem BLs.stC {c0 : tC} {v d : Int32} (hS : BLs E h bl bcs bal barr dk qu qal qarr med cs cal carr bps rqs mf cps sv ul tm hd up wy sd il nn hi mi ev ab) (e0 : h (fh_ed E) = none) (e1 : h1 (fh_ed E) = none) (h0 : c0 ∈ bps) (hh : h1 = va_up h c0.1 (some (.inr (1, [.int c0.2.1, .int v, .int d])))) : BLs E h1 bl bcs bal barr dk qu qal qarr med cs cal carr (setC bps c0.1 v d) rqs mf cps sv ul tm hd up wy sd il nn hi mi ev ab := by
  obtain ⟨hb0, hBC, hDK, a1, a2, a3, a4, a5, a6⟩ := hS
  obtain ⟨m3, kb⟩ := hBC.2.1.al
  have k0 := hBC.2.2 c0 h0
  have F : Fr h h1 (fun b => b = c0.1) := fun b e hb n => by rw [hh, va_up_ne _ _ n]; exact hb
  refine ⟨F _ _ hb0 (fh_ne hb0 k0 (by decide)), ⟨F _ _ hBC.1 (fh_ne hBC.1 k0 (by decide)), ?_, fun r hr => ?_⟩, hDK.keepO e0 e1 F k0 (Or.inr ⟨rfl, fun c hc z => a6 c0 h0 c hc z.symm⟩), a1, a2, a3, fun x hx => ?_, by rw [setC_fst]; exact a5, fun b hb c hc => ?_⟩
  · rw [setC_fst]
    exact hBC.2.1.frame ((F _ _ kb (fh_ne kb k0 (by decide))).trans kb.symm) (fun ⟨x, hx⟩ => (F _ _ hx (fun z => hBC.2.1.neO e0 k0 z.symm)).trans hx.symm)
  · obtain ⟨r', hr', rfl⟩ := List.mem_map.mp hr
    by_cases z : r'.1 = c0.1
    · rw [if_pos z]
      have k1 := hBC.2.2 r' hr'
      rw [z, k0] at k1
      simp only [Option.some.injEq, Sum.inr.injEq, Prod.mk.injEq, List.cons.injEq, Value.int.injEq, true_and, and_true] at k1
      show h1 r'.1 = _
      rw [z, hh, va_up_self, k1.1]
    · rw [if_neg z]
      exact F _ _ (hBC.2.2 r' hr') z
  · obtain ⟨y, hy⟩ := hBC.2.1.back e1 hx
    exact a4 _ hy
  · have : b.1 ∈ (setC bps c0.1 v d).map (·.1) := List.mem_map.mpr ⟨b, hb, rfl⟩
    rw [setC_fst] at this
    obtain ⟨b', hb', z⟩ := List.mem_map.mp this
    rw [← z]; exact a6 b' hb' c hc
end BK2
theorem absR_mem {b : Int32} {r0 : tQ} : ∀ {xs : List tQ}, absR b xs = some r0 → r0 ∈ xs := by
  intro xs
  induction xs with
  | nil => intro h; cases h
  | cons c t ih =>
    intro h
    unfold absR at h
    split at h
    · cases h
    · split at h
      · split at h
        · cases h; exact List.mem_cons_self
        · cases h
      · exact List.mem_cons_of_mem _ (ih h)
/-- what writing back a copy does to the queue -/
def WB (rqs : List tQ) (tm nn ab : Int32) (c0 : tC) (rqs2 : List tQ) (nn2 ab2 : Int32) : Prop :=
  (absR c0.2.1 rqs.reverse = none ∧ (∃ q, rqs2 = rqs ++ [(q, nn, 1, c0.2.1, tm, c0.2.2.1)]) ∧ nn2 = nn + 1 ∧ ab2 = ab) ∨ (∃ r0, absR c0.2.1 rqs.reverse = some r0 ∧ rqs2 = setV rqs r0.1 c0.2.2.1 ∧ nn2 = nn ∧ ab2 = ab + 1)

set_option maxHeartbeats 4000000 in
set_option maxRecDepth 100000 in
theorem c_BL_writeBack (l : Launch) (E : fh_E) (h : fh_H) (bl bcs bal barr dk qu qal qarr med cs cal carr : Nat) (bps : List tC) (rqs : List tQ) (mf : Nat → Int32) (cps : List tC) (sv : Option tQ) (ul tm hd up wy sd il nn hi mi ev ab : Int32) (hS0 : BLs E h bl bcs bal barr dk qu qal qarr med cs cal carr bps rqs mf cps sv ul tm hd up wy sd il nn hi mi ev ab) (hb10 : bps.length ≤ 10) (hq41 : rqs.length ≤ 41) (hc6 : cps.length ≤ 6) (c0 : tC) (h0 : h c0.1 = some (.inr (1, [.int c0.2.1, .int c0.2.2.1, .int c0.2.2.2])))  : fh_Met l y_BL_writeBack w_BL_writeBack ({ frames := 9, cells := 2, slots := 79, locals := 236 }) E [.ref bl, .ref c0.1] h (fun r h1 => r = none ∧ ∃ rqs2 nn2 ab2 qarr', WB rqs tm nn ab c0 rqs2 nn2 ab2 ∧ BLs E h1 bl bcs bal barr dk qu qal (qarr') med cs cal carr bps rqs2 mf cps sv ul tm hd up wy sd il nn2 hi mi ev ab2 ∧ Fr h h1 (fun b => b = bl ∨ b = qal ∨ b = qarr ∨ ∃ r ∈ rqs, b = r.1) ∧ Dm h h1 ∧ NewA h qarr qarr') 2 79 := by
  refine fh_ofW (cc := b_BL_writeBack) (maxL := 3) (ret := none) (by decide) rfl (Nat.le_of_ble_eq_true rfl) ?_
  intro p e s m below meth c A ls hx hb hr hml hown hts hlocks hname hnoh hadm hA hK hZ hP hS hl
  have hG : ∀ w ∈ G, w.before _ s = true := fun w hw => hts w (List.mem_cons_of_mem _ hw)
  have hown : s.vm.findClass R_BL = some m.cls := hown
  have hl : lv_has ls 3 [(0, .ref bl), (1, .ref c0.1)] := hl
  have hS1 := hS0
  obtain ⟨hb0, hBC, hDK, hap⟩ := hS0
  have hDK0 := hDK
  obtain ⟨hd0, hQ, hm, hC, hsv, hnd, hqc, hqa⟩ := hDK
  have kqu := hQ.1
  have kcs := hC.1
  have kbc := hBC.1
  have hed := hZ.edn hP
  refine lv_aload_n hx hb d_BL_writeBack_0 rfl (lv_at hl 0 rfl) ?_
  refine fh_get hx hb hG C_BL iG_BL hown hK hP hb0 1 (by decide) gm131 rfl d_BL_writeBack_1 ?_
  refine fh_get hx hb hG C_DK iG_DK hown hK hP hd0 0 (by decide) gm88 rfl d_BL_writeBack_4 ?_
  refine lv_aload_n hx hb d_BL_writeBack_7 rfl (lv_at hl 1 rfl) ?_
  refine fh_get hx hb hG C_CP iG_CP hown hK hP h0 0 (by decide) gm274 rfl d_BL_writeBack_8 ?_
  refine fh_callV (C := R_QU) (y := y_QU_absorberOf) (bytes := b_QU_absorberOf) (maxL := 4) (ret := (some (.object "BlockLayer$Request"))) (index := 184) (As := [.int c0.2.1]) (rest := []) ⟨hx, hb, hml, hown, hG⟩ (c_QU_absorberOf l E h qu qal qarr rqs hQ (by omega) c0.2.1) (cwV 1 hG (gV gm538 gm539 gm540 gm7 gm541) rfl rfl rfl ⟨rfl, hdy_QU_absorberOf⟩ ⟨Nat.le_of_ble_eq_true rfl, Nat.le_of_ble_eq_true rfl⟩) C_QU.1 kqu hK hZ hP hS hA rfl hl.1 rfl (Nat.le_of_ble_eq_true rfl) d_BL_writeBack_11 ⟨Nat.le_of_ble_eq_true rfl, Nat.le_of_ble_eq_true rfl⟩ (fun r h1 H locs hq9 hP hS => ?_)
  obtain ⟨rfl, e9⟩ := hq9
  rw [e9] at hP
  refine W.eq (g2 := F0 m 14 ls [va_rf ((absR c0.2.1 rqs.reverse).map (·.1))]) rfl ?_
  cases hab : absR c0.2.1 rqs.reverse with
  | none =>
    refine W.eq (g2 := F0 m 14 ls [.null]) (rfl) ?_
    refine lv_astore_nN (lv' := [(2, .null), (0, .ref bl), (1, .ref c0.1)]) hx hb d_BL_writeBack_14 rfl hl (by decide) rfl (fun ls hl => ?_)
    refine lv_aload_nN hx hb d_BL_writeBack_15 rfl (lv_at hl 0 rfl) ?_
    refine lv_ifnonnullN hx hb d_BL_writeBack_16 ?_
    refine lv_aload_n hx hb d_BL_writeBack_19 rfl (lv_at hl 1 rfl) ?_
    refine lv_iconst (v := 1) hx hb d_BL_writeBack_20 (by decide) ?_
    refine lv_aload_n hx hb d_BL_writeBack_21 rfl (lv_at hl 2 rfl) ?_
    refine fh_get hx hb hG C_CP iG_CP hown hK hP h0 0 (by decide) gm274 rfl d_BL_writeBack_22 ?_
    refine lv_aload_n hx hb d_BL_writeBack_25 rfl (lv_at hl 2 rfl) ?_
    refine fh_get hx hb hG C_CP iG_CP hown hK hP h0 1 (by decide) gm277 rfl d_BL_writeBack_26 ?_
    refine fh_callV (C := R_BL) (y := y_BL_makeRequest) (bytes := b_BL_makeRequest) (maxL := 5) (ret := (some (.object "BlockLayer$Request"))) (index := 41) (As := [.int 1, .int c0.2.1, .int c0.2.2.1]) (rest := []) ⟨hx, hb, hml, hown, hG⟩ (c_BL_makeRequest l E h bl bcs bal barr dk qu qal qarr med cs cal carr bps rqs mf cps sv ul tm hd up wy sd il nn hi mi ev ab hS1 hb10 hq41 hc6 1 c0.2.1 c0.2.2.1) (cwV 3 hG (gV gm542 gm544 gs_BL_makeRequest gm1 gm545) rfl rfl rfl ⟨rfl, hdy_BL_makeRequest⟩ ⟨Nat.le_of_ble_eq_true rfl, Nat.le_of_ble_eq_true rfl⟩) C_BL.1 hb0 hK hZ hP hS hA rfl hl.1 rfl (Nat.le_of_ble_eq_true rfl) d_BL_writeBack_29 ⟨Nat.le_of_ble_eq_true rfl, Nat.le_of_ble_eq_true rfl⟩ (fun r h1 H locs hq9 hP hS => ?_)
    obtain ⟨q, qarr1, rfl, g1, g2, g3, g4, g5⟩ := hq9
    refine W.eq (g2 := F0 m 32 ls [.ref q]) rfl ?_
    refine lv_pop hx hb d_BL_writeBack_32 rfl ?_
    refine lv_goto (tgt := 54) hx hb d_BL_writeBack_33 (by decide) ?_
    exact fh_vret hx hb hr hlocks (Nat.le_of_ble_eq_true rfl) (Nat.le_of_ble_eq_true rfl) hP hS ⟨rfl, _, _, _, qarr1, Or.inl ⟨hab, ⟨q, rfl⟩, rfl, rfl⟩, g1, g3.mono (fun b z => by rcases z with z | z | z; exact Or.inl z; exact Or.inr (Or.inl z); exact Or.inr (Or.inr (Or.inl z))), g4, g5⟩ d_BL_writeBack_54
  | some r0 =>
    have hr0 : r0 ∈ rqs := List.mem_reverse.mp (absR_mem hab)
    have kr := hQ.2.2 r0 hr0
    refine W.eq (g2 := F0 m 14 ls [.ref r0.1]) (rfl) ?_
    refine lv_astore_n (lv' := [(2, .ref r0.1), (0, .ref bl), (1, .ref c0.1)]) hx hb d_BL_writeBack_14 rfl hl (by decide) rfl (fun ls hl => ?_)
    refine lv_aload_n hx hb d_BL_writeBack_15 rfl (lv_at hl 0 rfl) ?_
    refine lv_ifnonnull (tgt := 36) hx hb d_BL_writeBack_16 (by decide) ?_
    refine lv_aload_n hx hb d_BL_writeBack_36 rfl (lv_at hl 0 rfl) ?_
    refine lv_aload_n hx hb d_BL_writeBack_37 rfl (lv_at hl 2 rfl) ?_
    refine fh_get hx hb hG C_CP iG_CP hown hK hP h0 1 (by decide) gm277 rfl d_BL_writeBack_38 ?_
    refine fh_put hx hb hG C_RQ iG_RQ hown hK hP hS kr 4 (by decide) gm567 rfl (v := .int c0.2.2.1) rfl rfl (Nat.le_of_ble_eq_true rfl) d_BL_writeBack_41 (fun H locs hP hS => ?_)
    obtain ⟨h_1, eh_2⟩ : ∃ z : fh_H, z = va_up h r0.1 (some (.inr (3, [.int r0.2.1, .int r0.2.2.1, .int r0.2.2.2.1, .int r0.2.2.2.2.1, .int c0.2.2.1, .int 0]))) := ⟨_, rfl⟩
    have hP : fh_P E.1 vwCl A h_1 H := by rw [eh_2]; exact hP
    have k_3 : h_1 bl = some (.inr (6, [.ref bcs, .ref dk, .int nn, .int hi, .int mi, .int ev, .int ab])) := by rw [eh_2]; exact fh_up hb0 (fh_ne hb0 kr (by decide))
    have k_4 : h_1 dk = some (.inr (5, [.ref qu, .ref med, .ref cs, va_rf (sv.map (·.1)), .int ul, .int tm, .int hd, .int up, .int wy, .int sd, .int il])) := by rw [eh_2]; exact fh_up hd0 (fh_ne hd0 kr (by decide))
    have k_5 : h_1 qu = some (.inr (4, [.ref qal])) := by rw [eh_2]; exact fh_up kqu (fh_ne kqu kr (by decide))
    have k_6 : h_1 cs = some (.inr (2, [.ref cal])) := by rw [eh_2]; exact fh_up kcs (fh_ne kcs kr (by decide))
    have k_7 : h_1 bcs = some (.inr (2, [.ref bal])) := by rw [eh_2]; exact fh_up kbc (fh_ne kbc kr (by decide))
    have k_8 : h_1 c0.1 = some (.inr (1, [.int c0.2.1, .int c0.2.2.1, .int c0.2.2.2])) := by rw [eh_2]; exact fh_up h0 (fh_ne h0 kr (by decide))
    have k_9 : h_1 r0.1 = some (.inr (3, [.int r0.2.1, .int r0.2.2.1, .int r0.2.2.2.1, .int r0.2.2.2.2.1, .int c0.2.2.1, .int 0])) := by rw [eh_2]; exact va_up_self _ _ _
    have ed1 := hZ.edn hP
    have D1 := hDK0.stV hed ed1 hr0 eh_2
    have F1 : Fr h h_1 (fun b => b = r0.1) := fun b e hb n => by rw [eh_2, va_up_ne _ _ n]; exact hb
    have S1 := hS1.disk hed ed1 (r9 := r0.1) (Or.inr ⟨_, kr⟩) D1 (F1.mono (fun b z => by omega)) (Or.inl rfl) (Or.inl rfl) hap.2.2.2.2.2
    refine lv_aload_n hx hb d_BL_writeBack_44 rfl (lv_at hl 1 rfl) ?_
    refine lv_dup hx hb d_BL_writeBack_45 rfl ?_
    refine fh_get hx hb hG C_BL iG_BL hown hK hP k_3 6 (by decide) gm136 rfl d_BL_writeBack_46 ?_
    refine lv_iconst (v := 1) hx hb d_BL_writeBack_49 (by decide) ?_
    refine lv_iadd hx hb d_BL_writeBack_50 ?_
    refine fh_put hx hb hG C_BL iG_BL hown hK hP hS k_3 6 (by decide) gm136 rfl (v := .int (ab + 1)) rfl rfl (Nat.le_of_ble_eq_true rfl) d_BL_writeBack_51 (fun H locs hP hS => ?_)
    obtain ⟨h_10, eh_11⟩ : ∃ z : fh_H, z = va_up h_1 bl (some (.inr (6, [.ref bcs, .ref dk, .int nn, .int hi, .int mi, .int ev, .int (ab + 1)]))) := ⟨_, rfl⟩
    have hP : fh_P E.1 vwCl A h_10 H := by rw [eh_11]; exact hP
    have k_12 : h_10 dk = some (.inr (5, [.ref qu, .ref med, .ref cs, va_rf (sv.map (·.1)), .int ul, .int tm, .int hd, .int up, .int wy, .int sd, .int il])) := by rw [eh_11]; exact fh_up k_4 (fh_ne k_4 k_3 (by decide))
    have k_13 : h_10 qu = some (.inr (4, [.ref qal])) := by rw [eh_11]; exact fh_up k_5 (fh_ne k_5 k_3 (by decide))
    have k_14 : h_10 cs = some (.inr (2, [.ref cal])) := by rw [eh_11]; exact fh_up k_6 (fh_ne k_6 k_3 (by decide))
    have k_15 : h_10 bcs = some (.inr (2, [.ref bal])) := by rw [eh_11]; exact fh_up k_7 (fh_ne k_7 k_3 (by decide))
    have k_16 : h_10 c0.1 = some (.inr (1, [.int c0.2.1, .int c0.2.2.1, .int c0.2.2.2])) := by rw [eh_11]; exact fh_up k_8 (fh_ne k_8 k_3 (by decide))
    have k_17 : h_10 r0.1 = some (.inr (3, [.int r0.2.1, .int r0.2.2.1, .int r0.2.2.2.1, .int r0.2.2.2.2.1, .int c0.2.2.1, .int 0])) := by rw [eh_11]; exact fh_up k_9 (fh_ne k_9 k_3 (by decide))
    have k_18 : h_10 bl = some (.inr (6, [.ref bcs, .ref dk, .int nn, .int hi, .int mi, .int ev, .int (ab + 1)])) := by rw [eh_11]; exact va_up_self _ _ _
    have ed2 := hZ.edn hP
    have S2 := S1.upB (nn2 := nn) (hi2 := hi) (mi2 := mi) (ev2 := ev) (ab2 := ab + 1) ed1 ed2 eh_11
    have F2 : Fr h_1 h_10 (fun b => b = bl) := fun b e hb n => by rw [eh_11, va_up_ne _ _ n]; exact hb
    exact fh_vret hx hb hr hlocks (Nat.le_of_ble_eq_true rfl) (Nat.le_of_ble_eq_true rfl) hP hS ⟨rfl, _, _, _, qarr, Or.inr ⟨r0, hab, rfl, rfl, rfl⟩, S2, F1.trans F2 (fun b z => Or.inr (Or.inr (Or.inr ⟨r0, hr0, z⟩))) (fun b _ z => Or.inl z), ((dm_up eh_2).trans (dm_up eh_11)), Or.inl rfl⟩ d_BL_writeBack_54

set_option maxHeartbeats 4000000 in
set_option maxRecDepth 100000 in
theorem c_BL_makeBufferRoom_no (l : Launch) (E : fh_E) (h : fh_H) (bl bcs bal barr dk qu qal qarr med cs cal carr : Nat) (bps : List tC) (rqs : List tQ) (mf : Nat → Int32) (cps : List tC) (sv : Option tQ) (ul tm hd up wy sd il nn hi mi ev ab : Int32) (hS0 : BLs E h bl bcs bal barr dk qu qal qarr med cs cal carr bps rqs mf cps sv ul tm hd up wy sd il nn hi mi ev ab) (hb9 : bps.length < 10) : fh_Met l y_BL_makeBufferRoom w_BL_makeBufferRoom ({ frames := 10, cells := 2, slots := 79, locals := 258 }) E [.ref bl] h (fun r h1 => r = none ∧ h1 = h) 2 79 := by
  refine fh_ofW (cc := b_BL_makeBufferRoom) (maxL := 2) (ret := none) (by decide) rfl (Nat.le_of_ble_eq_true rfl) ?_
  intro p e s m below meth c A ls hx hb hr hml hown hts hlocks hname hnoh hadm hA hK hZ hP hS hl
  have hG : ∀ w ∈ G, w.before _ s = true := fun w hw => hts w (List.mem_cons_of_mem _ hw)
  have hown : s.vm.findClass R_BL = some m.cls := hown
  have hl : lv_has ls 2 [(0, .ref bl)] := hl
  have hS1 := hS0
  obtain ⟨hb0, hBC, hDK, hap⟩ := hS0
  have hDK0 := hDK
  obtain ⟨hd0, hQ, hm, hC, hsv, hnd, hqc, hqa⟩ := hDK
  have kqu := hQ.1
  have kcs := hC.1
  have kbc := hBC.1
  refine lv_aload_n hx hb d_BL_makeBufferRoom_0 rfl (lv_at hl 0 rfl) ?_
  refine fh_get hx hb hG C_BL iG_BL hown hK hP hb0 0 (by decide) gm130 rfl d_BL_makeBufferRoom_1 ?_
  refine fh_callV (C := R_CS) (y := y_CS_size) (bytes := b_CS_size) (maxL := 1) (ret := (some .int)) (index := 73) (As := []) (rest := []) ⟨hx, hb, hml, hown, hG⟩ (c_CS_size l E h bcs bal barr bps hBC (by omega)) (cwV 0 hG (gV gm428 gm241 gm242 gm2 gm243) rfl rfl rfl ⟨rfl, hdy_CS_size⟩ ⟨Nat.le_of_ble_eq_true rfl, Nat.le_of_ble_eq_true rfl⟩) C_CS.1 kbc hK hZ hP hS hA rfl hl.1 rfl (Nat.le_of_ble_eq_true rfl) d_BL_makeBufferRoom_4 ⟨Nat.le_of_ble_eq_true rfl, Nat.le_of_ble_eq_true rfl⟩ (fun r h1 H locs hq9 hP hS => ?_)
  obtain ⟨rfl, e9⟩ := hq9
  rw [e9] at hP
  refine W.eq (g2 := F0 m 7 ls [.int (nI bps.length)]) rfl ?_
  refine lv_bipush (v := 10) hx hb d_BL_makeBufferRoom_7 (by decide) ?_
  refine lv_icmp_ge (tgt := 13) hx hb d_BL_makeBufferRoom_9 (by decide) (fun c_1 => ?_) (fun c_1 => ?_)
  · skip
    exact absurd (show nI 10 ≤ nI bps.length from c_1) (nI_ge hb9 (by decide))
  · skip
    exact fh_vret hx hb hr hlocks (Nat.le_of_ble_eq_true rfl) (Nat.le_of_ble_eq_true rfl) hP hS ⟨rfl, rfl⟩ d_BL_makeBufferRoom_12

set_option maxHeartbeats 4000000 in
set_option maxRecDepth 100000 in
theorem c_BL_makeBufferRoom_ev (l : Launch) (E : fh_E) (h : fh_H) (bl bcs bal barr dk qu qal qarr med cs cal carr : Nat) (c0 : tC) (bt : List tC) (rqs : List tQ) (mf : Nat → Int32) (cps : List tC) (sv : Option tQ) (ul tm hd up wy sd il nn hi mi ev ab : Int32) (hS0 : BLs E h bl bcs bal barr dk qu qal qarr med cs cal carr (c0 :: bt) rqs mf cps sv ul tm hd up wy sd il nn hi mi ev ab) (h10 : (c0 :: bt).length = 10) (hq41 : rqs.length ≤ 41) (hc6 : cps.length ≤ 6) : fh_Met l y_BL_makeBufferRoom w_BL_makeBufferRoom ({ frames := 10, cells := 2, slots := 79, locals := 258 }) E [.ref bl] h (fun r h1 => r = none ∧ ∃ rqs2 nn2 ab2 qarr', ((c0.2.2.2 = 0 ∧ rqs2 = rqs ∧ nn2 = nn ∧ ab2 = ab) ∨ (¬ c0.2.2.2 = 0 ∧ WB rqs tm nn ab c0 rqs2 nn2 ab2)) ∧ BLs E h1 bl bcs bal barr dk qu qal (qarr') med cs cal carr bt rqs2 mf cps sv ul tm hd up wy sd il nn2 hi mi (ev + 1) ab2 ∧ Fr h h1 (fun b => b = bl ∨ b = qal ∨ b = qarr ∨ b = bal ∨ b = barr ∨ ∃ r ∈ rqs, b = r.1) ∧ Dm h h1 ∧ NewA h qarr qarr') 2 79 := by
  refine fh_ofW (cc := b_BL_makeBufferRoom) (maxL := 2) (ret := none) (by decide) rfl (Nat.le_of_ble_eq_true rfl) ?_
  intro p e s m below meth c A ls hx hb hr hml hown hts hlocks hname hnoh hadm hA hK hZ hP hS hl
  have hG : ∀ w ∈ G, w.before _ s = true := fun w hw => hts w (List.mem_cons_of_mem _ hw)
  have hown : s.vm.findClass R_BL = some m.cls := hown
  have hl : lv_has ls 2 [(0, .ref bl)] := hl
  have hS1 := hS0
  obtain ⟨hb0, hBC, hDK, hap⟩ := hS0
  have hDK0 := hDK
  obtain ⟨hd0, hQ, hm, hC, hsv, hnd, hqc, hqa⟩ := hDK
  have kqu := hQ.1
  have kcs := hC.1
  have kbc := hBC.1
  have hed := hZ.edn hP
  have hbt : bt.length = 9 := by simpa using h10
  refine lv_aload_n hx hb d_BL_makeBufferRoom_0 rfl (lv_at hl 0 rfl) ?_
  refine fh_get hx hb hG C_BL iG_BL hown hK hP hb0 0 (by decide) gm130 rfl d_BL_makeBufferRoom_1 ?_
  refine fh_callV (C := R_CS) (y := y_CS_size) (bytes := b_CS_size) (maxL := 1) (ret := (some .int)) (index := 73) (As := []) (rest := []) ⟨hx, hb, hml, hown, hG⟩ (c_CS_size l E h bcs bal barr (c0 :: bt) hBC (by omega)) (cwV 0 hG (gV gm428 gm241 gm242 gm2 gm243) rfl rfl rfl ⟨rfl, hdy_CS_size⟩ ⟨Nat.le_of_ble_eq_true rfl, Nat.le_of_ble_eq_true rfl⟩) C_CS.1 kbc hK hZ hP hS hA rfl hl.1 rfl (Nat.le_of_ble_eq_true rfl) d_BL_makeBufferRoom_4 ⟨Nat.le_of_ble_eq_true rfl, Nat.le_of_ble_eq_true rfl⟩ (fun r h1 H locs hq9 hP hS => ?_)
  obtain ⟨rfl, e9⟩ := hq9
  rw [e9] at hP
  refine W.eq (g2 := F0 m 7 ls [.int (nI (c0 :: bt).length)]) rfl ?_
  refine lv_bipush (v := 10) hx hb d_BL_makeBufferRoom_7 (by decide) ?_
  refine lv_icmp_ge (tgt := 13) hx hb d_BL_makeBufferRoom_9 (by decide) (fun c_1 => ?_) (fun c_1 => ?_)
  · skip
    refine lv_aload_n hx hb d_BL_makeBufferRoom_13 rfl (lv_at hl 0 rfl) ?_
    refine fh_get hx hb hG C_BL iG_BL hown hK hP hb0 0 (by decide) gm130 rfl d_BL_makeBufferRoom_14 ?_
    refine fh_callV (C := R_CS) (y := y_CS_takeFirst) (bytes := b_CS_takeFirst) (maxL := 1) (ret := (some (.object "BlockLayer$Copy"))) (index := 181) (As := []) (rest := []) ⟨hx, hb, hml, hown, hG⟩ (c_CS_takeFirst_cons l E h bcs bal barr c0 bt hBC (by omega)) (cwV 0 hG (gV gm533 gm352 gm353 gm2 gm354) rfl rfl rfl ⟨rfl, hdy_CS_takeFirst⟩ ⟨Nat.le_of_ble_eq_true rfl, Nat.le_of_ble_eq_true rfl⟩) C_CS.1 kbc hK hZ hP hS hA rfl hl.1 rfl (Nat.le_of_ble_eq_true rfl) d_BL_makeBufferRoom_17 ⟨Nat.le_of_ble_eq_true rfl, Nat.le_of_ble_eq_true rfl⟩ (fun r h1 H locs hq9 hP hS => ?_)
    obtain ⟨rfl, g1, g2⟩ := hq9
    refine W.eq (g2 := F0 m 20 ls [.ref c0.1]) rfl ?_
    have ed1 := hZ.edn hP
    have F1 : Fr h h1 (fun b => b = bal ∨ b = barr) := fun b e hb n => (g2 b (fun z => n (Or.inl z)) (fun z => n (Or.inr z))).trans hb
    have nd1 := hap.2.2.2.2.1
    rw [List.map_cons, List.nodup_cons] at nd1
    have S1 := hS1.buf hed ed1 g1 F1 (Or.inl rfl) nd1.2 (fun b hb c hc => hap.2.2.2.2.2 b (List.mem_cons_of_mem _ hb) c hc)
    have D1 : Dm h h1 := dm_li g2 g1.2.1 hed
    obtain ⟨mdb, kal⟩ := hBC.2.1.al
    have k0 : h1 c0.1 = some (.inr (1, [.int c0.2.1, .int c0.2.2.1, .int c0.2.2.2])) := fr_obj g2 kal (hBC.2.1.isArr hed) (hBC.2.2 c0 List.mem_cons_self) (by decide)
    have kb1 := S1.1
    refine lv_astore_n (lv' := [(1, .ref c0.1), (0, .ref bl)]) hx hb d_BL_makeBufferRoom_20 rfl hl (by decide) rfl (fun ls hl => ?_)
    refine lv_aload_n hx hb d_BL_makeBufferRoom_21 rfl (lv_at hl 0 rfl) ?_
    refine lv_ifnonnull (tgt := 26) hx hb d_BL_makeBufferRoom_22 (by decide) ?_
    refine lv_aload_n hx hb d_BL_makeBufferRoom_26 rfl (lv_at hl 1 rfl) ?_
    refine lv_dup hx hb d_BL_makeBufferRoom_27 rfl ?_
    refine fh_get hx hb hG C_BL iG_BL hown hK hP kb1 5 (by decide) gm135 rfl d_BL_makeBufferRoom_28 ?_
    refine lv_iconst (v := 1) hx hb d_BL_makeBufferRoom_31 (by decide) ?_
    refine lv_iadd hx hb d_BL_makeBufferRoom_32 ?_
    refine fh_put hx hb hG C_BL iG_BL hown hK hP hS kb1 5 (by decide) gm135 rfl (v := .int (ev + 1)) rfl rfl (Nat.le_of_ble_eq_true rfl) d_BL_makeBufferRoom_33 (fun H locs hP hS => ?_)
    obtain ⟨h_2, eh_3⟩ : ∃ z : fh_H, z = va_up h1 bl (some (.inr (6, [.ref bcs, .ref dk, .int nn, .int hi, .int mi, .int (ev + 1), .int ab]))) := ⟨_, rfl⟩
    have hP : fh_P E.1 vwCl A h_2 H := by rw [eh_3]; exact hP
    have k_4 : h_2 c0.1 = some (.inr (1, [.int c0.2.1, .int c0.2.2.1, .int c0.2.2.2])) := by rw [eh_3]; exact fh_up k0 (fh_ne k0 kb1 (by decide))
    have k_5 : h_2 bl = some (.inr (6, [.ref bcs, .ref dk, .int nn, .int hi, .int mi, .int (ev + 1), .int ab])) := by rw [eh_3]; exact va_up_self _ _ _
    have ed2 := hZ.edn hP
    have S2 := S1.upB (nn2 := nn) (hi2 := hi) (mi2 := mi) (ev2 := ev + 1) (ab2 := ab) ed1 ed2 eh_3
    have F2 : Fr h1 h_2 (fun b => b = bl) := fun b e hb n => by rw [eh_3, va_up_ne _ _ n]; exact hb
    have D2 := D1.trans (dm_up eh_3)
    have F12 : Fr h h_2 (fun b => b = bl ∨ b = bal ∨ b = barr) := F1.trans F2 (fun b z => Or.inr z) (fun b _ z => Or.inl z)
    refine lv_aload_n hx hb d_BL_makeBufferRoom_36 rfl (lv_at hl 0 rfl) ?_
    refine fh_get hx hb hG C_CP iG_CP hown hK hP k_4 2 (by decide) gm279 rfl d_BL_makeBufferRoom_37 ?_
    refine lv_if_eq (tgt := 48) hx hb d_BL_makeBufferRoom_40 (by decide) (fun c_6 => ?_) (fun c_6 => ?_)
    · skip
      exact fh_vret hx hb hr hlocks (Nat.le_of_ble_eq_true rfl) (Nat.le_of_ble_eq_true rfl) hP hS ⟨rfl, rqs, nn, ab, qarr, Or.inl ⟨c_6, rfl, rfl, rfl⟩, S2, F12.mono (fun b z => by rcases z with z | z | z; exact Or.inl z; exact Or.inr (Or.inr (Or.inr (Or.inl z))); exact Or.inr (Or.inr (Or.inr (Or.inr (Or.inl z))))), D2, Or.inl rfl⟩ d_BL_makeBufferRoom_48
    · skip
      refine lv_aload_n hx hb d_BL_makeBufferRoom_43 rfl (lv_at hl 1 rfl) ?_
      refine lv_aload_n hx hb d_BL_makeBufferRoom_44 rfl (lv_at hl 0 rfl) ?_
      refine fh_callV (C := R_BL) (y := y_BL_writeBack) (bytes := b_BL_writeBack) (maxL := 3) (ret := none) (index := 81) (As := [.ref c0.1]) (rest := []) ⟨hx, hb, hml, hown, hG⟩ (c_BL_writeBack l E h_2 bl bcs bal barr dk qu qal qarr med cs cal carr bt rqs mf cps sv ul tm hd up wy sd il nn hi mi (ev + 1) ab S2 (by omega) hq41 hc6 c0 k_4) (cwV 1 hG (gV gm534 gm536 gs_BL_writeBack gm1 gm537) rfl rfl rfl ⟨rfl, hdy_BL_writeBack⟩ ⟨Nat.le_of_ble_eq_true rfl, Nat.le_of_ble_eq_true rfl⟩) C_BL.1 k_5 hK hZ hP hS hA rfl hl.1 rfl (Nat.le_of_ble_eq_true rfl) d_BL_makeBufferRoom_45 ⟨Nat.le_of_ble_eq_true rfl, Nat.le_of_ble_eq_true rfl⟩ (fun r h2 H locs hq9 hP hS => ?_)
      obtain ⟨rfl, rqs2, nn2, ab2, qarr1, j1, j2, j3, j4, j5⟩ := hq9
      refine W.eq (g2 := F0 m 48 ls []) rfl ?_
      exact fh_vret hx hb hr hlocks (Nat.le_of_ble_eq_true rfl) (Nat.le_of_ble_eq_true rfl) hP hS ⟨rfl, rqs2, nn2, ab2, qarr1, Or.inr ⟨c_6, j1⟩, j2, F12.trans j3 (fun b z => by rcases z with z | z | z; exact Or.inl z; exact Or.inr (Or.inr (Or.inr (Or.inl z))); exact Or.inr (Or.inr (Or.inr (Or.inr (Or.inl z))))) (fun b _ z => by rcases z with z | z | z | z; exact Or.inl z; exact Or.inr (Or.inl z); exact Or.inr (Or.inr (Or.inl z)); exact Or.inr (Or.inr (Or.inr (Or.inr (Or.inr z))))), D2.trans j4, j5.imp id (D2 _)⟩ d_BL_makeBufferRoom_48
  · skip
    exact absurd (show nI 10 ≤ nI (c0 :: bt).length by rw [h10]; decide) c_1
