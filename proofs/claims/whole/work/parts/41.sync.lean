/-! THE LAYER, in the model: sync. -/
def dlM (acc : Option mC) (c : mC) : Option mC := if c.2.2 = 0 then acc else match acc with
  | none => some c
  | some d => if c.1 < d.1 then some c else some d
theorem dl_er : ∀ (bps : List tC) (acc : Option tC), (bps.foldl dlbF acc).map (·.2) = (bps.map (·.2)).foldl dlM (acc.map (·.2)) := by
  intro bps
  induction bps with
  | nil => intro acc; rfl
  | cons c t ih =>
    intro acc
    rw [List.foldl_cons, List.map_cons, List.foldl_cons, ih]
    congr 1
    unfold dlbF dlM
    by_cases z : c.2.2.2 = 0
    · rw [if_pos z, if_pos z]
    · rw [if_neg z, if_neg z]
      cases acc with
      | none => rfl
      | some d =>
        show (if c.2.1 < d.2.1 then some c else some d).map (·.2) = if c.2.1 < d.2.1 then some c.2 else some d.2
        split <;> rfl
theorem dl_mem : ∀ (bs : List mC) (acc : Option mC) (c : mC), bs.foldl dlM acc = some c → (c ∈ bs ∧ ¬ c.2.2 = 0) ∨ acc = some c := by
  intro bs
  induction bs with
  | nil => intro acc c h; exact Or.inr h
  | cons x t ih =>
    intro acc c h
    rw [List.foldl_cons] at h
    rcases ih _ c h with z | z
    · exact Or.inl ⟨List.mem_cons_of_mem _ z.1, z.2⟩
    · unfold dlM at z
      by_cases w : x.2.2 = 0
      · rw [if_pos w] at z; exact Or.inr z
      · rw [if_neg w] at z
        cases acc with
        | none => cases z; exact Or.inl ⟨List.mem_cons_self, w⟩
        | some d =>
          simp only [] at z
          split at z
          · cases z; exact Or.inl ⟨List.mem_cons_self, w⟩
          · exact Or.inr z
def dc (bs : List mC) : Nat := (bs.filter (fun c => c.2.2 != 0)).length
def clL (bs : List mC) (b : Int32) : List mC := bs.map (fun c => if c.1 = b then (c.1, c.2.1, 0) else c)
def clM (S : mS) (b : Int32) : mS := (mkS S.q S.mf S.ca S.sv S.ul S.tm S.hd S.up S.wy S.sd S.il (clL S.bs b) S.nn S.hi S.mi S.ev S.ab)
def syM : Nat → Nat → mS → mS × Nat
  | 0, w, S => (S, w)
  | f + 1, w, S => match S.bs.foldl dlM none with
    | none => (S, w)
    | some c => syM f (w + 1) (clM (wbM S c) c.1)
theorem inj_nd {α β : Type} {f : α → β} : ∀ {xs : List α}, (xs.map f).Nodup → ∀ x ∈ xs, ∀ y ∈ xs, f x = f y → x = y := by
  intro xs
  induction xs with
  | nil => intro _ x hx; cases hx
  | cons a t ih =>
    intro hn x hx y hy e
    rw [List.map_cons, List.nodup_cons] at hn
    rcases List.mem_cons.mp hx with z | hx2
    · rcases List.mem_cons.mp hy with w | hy2
      · rw [z, w]
      · exact absurd (List.mem_map.mpr ⟨y, hy2, by rw [← e, z]⟩) hn.1
    · rcases List.mem_cons.mp hy with w | hy2
      · exact absurd (List.mem_map.mpr ⟨x, hx2, by rw [e, w]⟩) hn.1
      · exact ih hn.2 x hx2 y hy2 e
theorem clL_er {bps : List tC} {c0 : tC} (h1 : (bps.map (·.1)).Nodup) (h2 : ((bps.map (·.2)).map (·.1)).Nodup) (h0 : c0 ∈ bps) : (setC bps c0.1 c0.2.2.1 0).map (·.2) = clL (bps.map (·.2)) c0.2.1 := by
  unfold setC clL
  rw [List.map_map, List.map_map]
  refine List.map_congr_left (fun c hc => ?_)
  show (if c.1 = c0.1 then (c.1, c.2.1, c0.2.2.1, (0 : Int32)) else c).2 = if c.2.1 = c0.2.1 then (c.2.1, c.2.2.1, (0 : Int32)) else c.2
  by_cases z : c.1 = c0.1
  · have e := inj_nd h1 c hc c0 h0 z
    rw [if_pos z, e, if_pos rfl]
  · rw [if_neg z, if_neg (fun w => z ?_)]
    rw [List.map_map] at h2
    rw [inj_nd (f := fun x : tC => x.2.1) h2 c hc c0 h0 w]
theorem clL_fst (bs : List mC) (b : Int32) : (clL bs b).map (·.1) = bs.map (·.1) := by
  unfold clL
  rw [List.map_map]
  refine List.map_congr_left (fun c _ => ?_)
  show (if c.1 = b then (c.1, c.2.1, (0 : Int32)) else c).1 = c.1
  split <;> rfl
theorem clL_id {bs : List mC} {b : Int32} (h : b ∉ bs.map (·.1)) : clL bs b = bs := by
  unfold clL
  refine (List.map_congr_left (g := id) (fun r hr => ?_)).trans (List.map_id _)
  exact if_neg (fun z => h (List.mem_map.mpr ⟨r, hr, z⟩))
theorem dc_cl {c : mC} : ∀ {bs : List mC}, c ∈ bs → ¬ c.2.2 = 0 → (bs.map (·.1)).Nodup → dc (clL bs c.1) + 1 = dc bs := by
  intro bs
  induction bs with
  | nil => intro h; cases h
  | cons x t ih =>
    intro h hd hn
    rw [List.map_cons, List.nodup_cons] at hn
    have e1 : clL (x :: t) c.1 = (if x.1 = c.1 then (x.1, x.2.1, 0) else x) :: clL t c.1 := rfl
    unfold dc at ih ⊢
    rw [e1]
    rcases List.mem_cons.mp h with rfl | h
    · rw [if_pos rfl, List.filter_cons_of_neg (by simp), clL_id hn.1, List.filter_cons_of_pos (by simpa using hd), List.length_cons]
    · have hne : ¬ x.1 = c.1 := fun z => hn.1 (List.mem_map.mpr ⟨c, h, z.symm⟩)
      rw [if_neg hne]
      have := ih h hd hn.2
      by_cases w : (x.2.2 != 0) = true
      · rw [List.filter_cons_of_pos (p := fun c : mC => c.2.2 != 0) w, List.filter_cons_of_pos (p := fun c : mC => c.2.2 != 0) w, List.length_cons, List.length_cons]; omega
      · rw [List.filter_cons_of_neg (p := fun c : mC => c.2.2 != 0) w, List.filter_cons_of_neg (p := fun c : mC => c.2.2 != 0) w]; exact this
theorem wb_bs (S : mS) (c : mC) : (wbM S c).bs = S.bs := by
  unfold wbM
  cases wbL c.1 c.2.1 S.q.reverse <;> rfl
theorem Inv.cl {S : mS} {t : Nat} {b : Int32} (hI : Inv S t) : Inv (clM S b) t := by
  obtain ⟨i1, i2, i3, i4, i5, i6, i7, i8, i9, i10, i11, i12, i13⟩ := hI
  refine ⟨by show (clL S.bs b).length ≤ 10; unfold clL; rw [List.length_map]; exact i1, i2, i3, i4, i5, i6, fun c hc => ?_, by show ((clL S.bs b).map (·.1)).Nodup; rw [clL_fst]; exact i8, i9, i10, i11, i12, i13⟩
  obtain ⟨c', hc', rfl⟩ := List.mem_map.mp hc
  have := i7 c' hc'
  by_cases z : c'.1 = b
  · rw [if_pos z]; exact this
  · rw [if_neg z]; exact this
theorem dc_le (bs : List mC) : dc bs ≤ bs.length := List.length_filter_le ..
theorem wb_q (S : mS) (c : mC) : (wbM S c).q.length ≤ S.q.length + 1 := by
  unfold wbM
  cases hw : wbL c.1 c.2.1 S.q.reverse with
  | none => show (S.q ++ [_]).length ≤ _; rw [List.length_append, List.length_singleton]; exact Nat.le_refl _
  | some l =>
    show l.reverse.length ≤ _
    rw [List.length_reverse, (wbL_in hw).1, List.length_reverse]; omega

theorem dlb_mem {bps : List tC} {c : tC} (h : bps.foldl dlbF none = some c) : c ∈ bps := by
  have key : ∀ (xs : List tC) (acc : Option tC), xs.foldl dlbF acc = some c → c ∈ xs ∨ acc = some c := by
    intro xs
    induction xs with
    | nil => intro acc h; exact Or.inr h
    | cons x t ih =>
      intro acc h
      rw [List.foldl_cons] at h
      rcases ih _ h with z | z
      · exact Or.inl (List.mem_cons_of_mem _ z)
      · unfold dlbF at z
        by_cases w : x.2.2.2 = 0
        · rw [if_pos w] at z; exact Or.inr z
        · rw [if_neg w] at z
          cases acc with
          | none => cases z; exact Or.inl List.mem_cons_self
          | some d =>
            simp only [] at z
            split at z
            · cases z; exact Or.inl List.mem_cons_self
            · exact Or.inr z
  exact (key bps none h).resolve_right (fun z => by cases z)
theorem lv_sw {ls : Array Slot} {n : Nat} {a b c d : Nat × Value} (h : lv_has ls n [a, b, c, d]) : lv_has ls n [a, b, d] := lv_sub h [0, 1, 3] rfl
set_option maxHeartbeats 4000000 in
set_option maxRecDepth 100000 in
theorem c_BL_sync (l : Launch) (E : fh_E) (h : fh_H) (bl med : Nat) (S : mS) (t : Nat) (hS0 : ALy E h bl med S) (hI : Inv S t) (hroom : S.q.length + S.bs.length + 1 ≤ 40) : fh_Met l y_BL_sync w_BL_sync ({ frames := 10, cells := 23, slots := 875, locals := 258 }) E [.ref bl] h (fun r h1 => r = some (.int (nI (syM 10 0 S).2)) ∧ ALy E h1 bl med (addM (syM 10 0 S).1 2 (-1) 0) ∧ KB h h1 med) 23 875 := by
  refine fh_ofW (cc := b_BL_sync) (maxL := 4) (ret := (some .int)) (by decide) rfl (Nat.le_of_ble_eq_true rfl) ?_
  intro p e s m below meth c A ls hx hb hr hml hown hts hlocks hname hnoh hadm hA hK hZ hP hS hl
  have hG : ∀ w ∈ G, w.before _ s = true := fun w hw => hts w (List.mem_cons_of_mem _ hw)
  have hown : s.vm.findClass R_BL = some m.cls := hown
  have hl : lv_has ls 4 [(0, .ref bl)] := hl
  obtain ⟨dk, rqs, sv, hB⟩ := hS0
  have hed := hZ.edn hP
  obtain ⟨bcs, bal, barr, qu, qal, qarr, cs, cal, carr, bps, cps, hS1, eb, eq, ec, es⟩ := id hB
  obtain ⟨hb0, hBC, hDK, hap⟩ := id hS1
  obtain ⟨hd0, hQ, hm, hC, hsv, hnd, hqc, hqa⟩ := id hDK
  have kqu := hQ.1
  have kcs := hC.1
  have kbc := hBC.1
  have hb10 : bps.length ≤ 10 := by
    have h9 : (bps.map (·.2)).length ≤ 10 := by rw [eb]; exact hI.bs10
    rw [List.length_map] at h9
    exact h9
  have hq40 : rqs.length ≤ 40 := by
    have h9 : (rqs.map (·.2)).length ≤ 40 := by rw [eq]; exact hI.q40
    rw [List.length_map] at h9
    exact h9
  have hc6 : cps.length ≤ 6 := by
    have h9 : (cps.map (·.2)).length ≤ 6 := by rw [ec]; exact hI.ca6
    rw [List.length_map] at h9
    exact h9
  refine lv_aload_n hx hb d_BL_sync_0 rfl (lv_at hl 0 rfl) ?_
  refine lv_aload_n hx hb d_BL_sync_1 rfl (lv_at hl 0 rfl) ?_
  refine fh_get hx hb hG C_BL iG_BL hown hK hP hb0 0 (by decide) gm130 rfl d_BL_sync_2 ?_
  refine fh_callV (C := R_CS) (y := y_CS_size) (bytes := b_CS_size) (maxL := 1) (ret := (some .int)) (index := 73) (As := []) (rest := [.ref bl]) ⟨hx, hb, hml, hown, hG⟩ (c_CS_size l E h bcs bal barr bps hBC (by omega)) (cwV 0 hG (gV gm428 gm241 gm242 gm2 gm243) rfl rfl rfl ⟨rfl, hdy_CS_size⟩ ⟨Nat.le_of_ble_eq_true rfl, Nat.le_of_ble_eq_true rfl⟩) C_CS.1 kbc hK hZ hP hS hA rfl hl.1 rfl (Nat.le_of_ble_eq_true rfl) d_BL_sync_5 ⟨Nat.le_of_ble_eq_true rfl, Nat.le_of_ble_eq_true rfl⟩ (fun r h1 H locs hq9 hP hS => ?_)
  obtain ⟨rfl, e9⟩ := hq9
  rw [e9] at hP
  refine W.eq (g2 := F0 m 8 ls [.int (nI bps.length), .ref bl]) rfl ?_
  refine lv_iconst (v := 1) hx hb d_BL_sync_8 (by decide) ?_
  refine lv_iadd hx hb d_BL_sync_9 ?_
  refine W.eq (g2 := F0 m 10 ls [.int (nI (bps.length + 1)), .ref bl]) (by rw [nI_1]) ?_
  refine fh_callV (C := R_BL) (y := y_BL_requireQueueRoom) (bytes := b_BL_requireQueueRoom) (maxL := 2) (ret := none) (index := 27) (As := [.int (nI (bps.length + 1))]) (rest := []) ⟨hx, hb, hml, hown, hG⟩ (c_BL_requireQueueRoom l E h bl bcs bal barr dk qu qal qarr med cs cal carr bps rqs S.mf cps sv S.ul S.tm S.hd S.up S.wy S.sd S.il S.nn S.hi S.mi S.ev S.ab hS1 (by omega) (bps.length + 1) (by rw [← eq, ← eb, List.length_map, List.length_map] at hroom; omega)) (cwV 1 hG (gV gm509 gm511 gs_BL_requireQueueRoom gm1 gm512) rfl rfl rfl ⟨rfl, hdy_BL_requireQueueRoom⟩ ⟨Nat.le_of_ble_eq_true rfl, Nat.le_of_ble_eq_true rfl⟩) C_BL.1 hb0 hK hZ hP hS hA rfl hl.1 rfl (Nat.le_of_ble_eq_true rfl) d_BL_sync_10 ⟨Nat.le_of_ble_eq_true rfl, Nat.le_of_ble_eq_true rfl⟩ (fun r h1 H locs hq9 hP hS => ?_)
  obtain ⟨rfl, e9⟩ := hq9
  rw [e9] at hP
  refine W.eq (g2 := F0 m 13 ls []) rfl ?_
  refine lv_iconst (v := 0) hx hb d_BL_sync_13 (by decide) ?_
  refine lv_istore_n (lv' := [(1, .int 0), (0, .ref bl)]) hx hb d_BL_sync_14 rfl hl (by decide) rfl (fun ls hl => ?_)
  refine lv_iconst (v := 0) hx hb d_BL_sync_15 (by decide) ?_
  refine lv_istore_n (lv' := [(2, .int 0), (1, .int 0), (0, .ref bl)]) hx hb d_BL_sync_16 rfl hl (by decide) rfl (fun ls hl => ?_)
  have loop : ∀ (f i : Nat) (S2 : mS) (rqs : List tQ) (hw : fh_H) (H : Heap) (locs : List Loc) (cells slots : Nat) (ls : Array Slot) (lv3 : List (Nat × Value)), syM 10 0 S = syM f i S2 → dc S2.bs ≤ f → i + f = 10 → cells + 2 * f ≤ 21 → slots + 79 * f ≤ 796 → S2.q.length + dc S2.bs + 1 ≤ 40 → Inv S2 t → BLr E hw bl dk med rqs sv S2 → KB h hw med → lv_has ls 4 [(2, .int (nI i)), (1, .int (nI i)), (0, .ref bl)] → fh_P E.1 vwCl A hw H → va_S A s.heap H locs → W p l e ({ frames := 10, cells := 23, slots := 875, locals := 258 }) s m ([.ref bl] : List Value).toArray below meth c H locs cells slots (MQ below (fh_Post E (fun r h1 => r = some (.int (nI (syM 10 0 S).2)) ∧ ALy E h1 bl med (addM (syM 10 0 S).1 2 (-1) 0) ∧ KB h h1 med) A) ([.ref bl] : List Value).toArray s 23 875 A) (F0 m 17 ls []) := by
    intro f
    induction f with
    | zero =>
      intro i S2 rqs hw H locs cells slots ls lv3 ep hdc hif c1 c2 hqd I2 B2 hk hl hP hS
      have hed := hZ.edn hP
      obtain ⟨bcs, bal, barr, qu, qal, qarr, cs, cal, carr, bps, cps, hS1, eb, eq, ec, es⟩ := id B2
      obtain ⟨hb0, hBC, hDK, hap⟩ := id hS1
      obtain ⟨hd0, hQ, hm, hC, hsv, hnd, hqc, hqa⟩ := id hDK
      have kqu := hQ.1
      have kcs := hC.1
      have kbc := hBC.1
      have hb10 : bps.length ≤ 10 := by
        have h9 : (bps.map (·.2)).length ≤ 10 := by rw [eb]; exact I2.bs10
        rw [List.length_map] at h9
        exact h9
      have hq40 : rqs.length ≤ 40 := by
        have h9 : (rqs.map (·.2)).length ≤ 40 := by rw [eq]; exact I2.q40
        rw [List.length_map] at h9
        exact h9
      have hc6 : cps.length ≤ 6 := by
        have h9 : (cps.map (·.2)).length ≤ 6 := by rw [ec]; exact I2.ca6
        rw [List.length_map] at h9
        exact h9
      refine lv_iload_n hx hb d_BL_sync_17 rfl (lv_at hl 0 rfl) ?_
      refine lv_bipush (v := 10) hx hb d_BL_sync_18 (by decide) ?_
      refine lv_icmp_ge (tgt := 57) hx hb d_BL_sync_20 (by decide) (fun c_1 => ?_) (fun c_1 => ?_)
      · skip
        have e9 : syM 10 0 S = (S2, i) := ep
        refine lv_aload_n hx hb d_BL_sync_57 rfl (lv_at hl 2 rfl) ?_
        refine lv_iconst (v := 2) hx hb d_BL_sync_58 (by decide) ?_
        refine lv_iconst (v := (-1)) hx hb d_BL_sync_59 (by decide) ?_
        refine lv_iconst (v := 0) hx hb d_BL_sync_60 (by decide) ?_
        refine fh_callV (C := R_BL) (y := y_BL_makeRequest) (bytes := b_BL_makeRequest) (maxL := 5) (ret := (some (.object "BlockLayer$Request"))) (index := 41) (As := [.int 2, .int (-1), .int 0]) (rest := []) ⟨hx, hb, hml, hown, hG⟩ (c_mk l E hw bl dk med rqs sv S2 t B2 I2 2 (-1) 0) (cwV 3 hG (gV gm542 gm544 gs_BL_makeRequest gm1 gm545) rfl rfl rfl ⟨rfl, hdy_BL_makeRequest⟩ ⟨Nat.le_of_ble_eq_true rfl, Nat.le_of_ble_eq_true rfl⟩) C_BL.1 hb0 hK hZ hP hS hA rfl hl.1 rfl (Nat.le_of_ble_eq_true rfl) d_BL_sync_61 ⟨show _ + 2 ≤ 23 by omega, show _ + 79 ≤ 875 by omega⟩ (fun r h5 H locs hq9 hP hS => ?_)
        obtain ⟨q, rfl, B5, K5⟩ := hq9
        refine W.eq (g2 := F0 m 64 ls [.ref q]) rfl ?_
        refine lv_pop hx hb d_BL_sync_64 rfl ?_
        refine lv_iload_n hx hb d_BL_sync_65 rfl (lv_at hl 1 rfl) ?_
        refine fh_iret hx hb hr hlocks (by omega) (by omega) hP hS ⟨by rw [e9], ⟨dk, _, sv, by rw [e9]; exact B5⟩, hk.trans K5⟩ d_BL_sync_66
      · skip
        exact absurd (show nI 10 ≤ nI i from nI_le (by omega) (by omega)) c_1
    | succ f ih =>
      intro i S2 rqs hw H locs cells slots ls lv3 ep hdc hif c1 c2 hqd I2 B2 hk hl hP hS
      have hed := hZ.edn hP
      obtain ⟨bcs, bal, barr, qu, qal, qarr, cs, cal, carr, bps, cps, hS1, eb, eq, ec, es⟩ := id B2
      obtain ⟨hb0, hBC, hDK, hap⟩ := id hS1
      obtain ⟨hd0, hQ, hm, hC, hsv, hnd, hqc, hqa⟩ := id hDK
      have kqu := hQ.1
      have kcs := hC.1
      have kbc := hBC.1
      have hb10 : bps.length ≤ 10 := by
        have h9 : (bps.map (·.2)).length ≤ 10 := by rw [eb]; exact I2.bs10
        rw [List.length_map] at h9
        exact h9
      have hq40 : rqs.length ≤ 40 := by
        have h9 : (rqs.map (·.2)).length ≤ 40 := by rw [eq]; exact I2.q40
        rw [List.length_map] at h9
        exact h9
      have hc6 : cps.length ≤ 6 := by
        have h9 : (cps.map (·.2)).length ≤ 6 := by rw [ec]; exact I2.ca6
        rw [List.length_map] at h9
        exact h9
      refine lv_iload_n hx hb d_BL_sync_17 rfl (lv_at hl 0 rfl) ?_
      refine lv_bipush (v := 10) hx hb d_BL_sync_18 (by decide) ?_
      refine lv_icmp_ge (tgt := 57) hx hb d_BL_sync_20 (by decide) (fun c_2 => ?_) (fun c_2 => ?_)
      · skip
        exact absurd c_2 (nI_ge (b := 10) (by omega) (by omega))
      · skip
        refine lv_aload_n hx hb d_BL_sync_23 rfl (lv_at hl 2 rfl) ?_
        refine fh_get hx hb hG C_BL iG_BL hown hK hP hb0 0 (by decide) gm130 rfl d_BL_sync_24 ?_
        refine fh_callV (C := R_CS) (y := y_CS_dirtyOfLeastBlock) (bytes := b_CS_dirtyOfLeastBlock) (maxL := 4) (ret := (some (.object "BlockLayer$Copy"))) (index := 77) (As := []) (rest := []) ⟨hx, hb, hml, hown, hG⟩ (c_CS_dirtyOfLeastBlock l E hw bcs bal barr bps hBC (by omega)) (cwV 0 hG (gV gm606 gm607 gm608 gm2 gm609) rfl rfl rfl ⟨rfl, hdy_CS_dirtyOfLeastBlock⟩ ⟨Nat.le_of_ble_eq_true rfl, Nat.le_of_ble_eq_true rfl⟩) C_CS.1 kbc hK hZ hP hS hA rfl hl.1 rfl (Nat.le_of_ble_eq_true rfl) d_BL_sync_27 ⟨show cells + 0 ≤ 23 by omega, show slots + 0 ≤ 875 by omega⟩ (fun r h1 H locs hq9 hP hS => ?_)
        obtain ⟨rfl, e9⟩ := hq9
        rw [e9] at hP
        refine W.eq (g2 := F0 m 30 ls [va_rf ((bps.foldl dlbF none).map (·.1))]) rfl ?_
        have hde : (bps.foldl dlbF none).map (·.2) = S2.bs.foldl dlM none := by rw [dl_er, eb]; rfl
        cases hfd : bps.foldl dlbF none with
        | none =>
          have e9 : syM 10 0 S = (S2, i) := by rw [ep]; unfold syM; rw [← hde, hfd]; rfl
          refine W.eq (g2 := F0 m 30 ls [.null]) (rfl) ?_
          refine lv_astore_nN (lv' := [(3, .null), (2, .int (nI i)), (1, .int (nI i)), (0, .ref bl)]) hx hb d_BL_sync_30 rfl hl (by decide) rfl (fun ls hl => ?_)
          refine lv_aload_nN hx hb d_BL_sync_31 rfl (lv_at hl 0 rfl) ?_
          refine lv_ifnonnullN hx hb d_BL_sync_32 ?_
          refine lv_goto (tgt := 57) hx hb d_BL_sync_35 (by decide) ?_
          refine lv_aload_n hx hb d_BL_sync_57 rfl (lv_at hl 3 rfl) ?_
          refine lv_iconst (v := 2) hx hb d_BL_sync_58 (by decide) ?_
          refine lv_iconst (v := (-1)) hx hb d_BL_sync_59 (by decide) ?_
          refine lv_iconst (v := 0) hx hb d_BL_sync_60 (by decide) ?_
          refine fh_callV (C := R_BL) (y := y_BL_makeRequest) (bytes := b_BL_makeRequest) (maxL := 5) (ret := (some (.object "BlockLayer$Request"))) (index := 41) (As := [.int 2, .int (-1), .int 0]) (rest := []) ⟨hx, hb, hml, hown, hG⟩ (c_mk l E hw bl dk med rqs sv S2 t B2 I2 2 (-1) 0) (cwV 3 hG (gV gm542 gm544 gs_BL_makeRequest gm1 gm545) rfl rfl rfl ⟨rfl, hdy_BL_makeRequest⟩ ⟨Nat.le_of_ble_eq_true rfl, Nat.le_of_ble_eq_true rfl⟩) C_BL.1 hb0 hK hZ hP hS hA rfl hl.1 rfl (Nat.le_of_ble_eq_true rfl) d_BL_sync_61 ⟨show _ + 2 ≤ 23 by omega, show _ + 79 ≤ 875 by omega⟩ (fun r h5 H locs hq9 hP hS => ?_)
          obtain ⟨q, rfl, B5, K5⟩ := hq9
          refine W.eq (g2 := F0 m 64 ls [.ref q]) rfl ?_
          refine lv_pop hx hb d_BL_sync_64 rfl ?_
          refine lv_iload_n hx hb d_BL_sync_65 rfl (lv_at hl 2 rfl) ?_
          refine fh_iret hx hb hr hlocks (by omega) (by omega) hP hS ⟨by rw [e9], ⟨dk, _, sv, by rw [e9]; exact B5⟩, hk.trans K5⟩ d_BL_sync_66
        | some c0 =>
          have hd1 : S2.bs.foldl dlM none = some c0.2 := by rw [← hde, hfd]; rfl
          have hm1 := (dl_mem _ _ _ hd1).resolve_right (fun z => by cases z)
          have hm0 : c0 ∈ bps := dlb_mem hfd
          have e9 : syM (f + 1) i S2 = syM f (i + 1) (clM (wbM S2 c0.2) c0.2.1) := by
            show (match S2.bs.foldl dlM none with | none => _ | some c => _) = _
            rw [hd1]
          have kc := hBC.2.2 c0 hm0
          have hdc2 := dc_cl hm1.1 hm1.2 I2.bsnd
          refine W.eq (g2 := F0 m 30 ls [.ref c0.1]) (rfl) ?_
          refine lv_astore_n (lv' := [(3, .ref c0.1), (2, .int (nI i)), (1, .int (nI i)), (0, .ref bl)]) hx hb d_BL_sync_30 rfl hl (by decide) rfl (fun ls hl => ?_)
          refine lv_aload_n hx hb d_BL_sync_31 rfl (lv_at hl 0 rfl) ?_
          refine lv_ifnonnull (tgt := 38) hx hb d_BL_sync_32 (by decide) ?_
          refine lv_aload_n hx hb d_BL_sync_38 rfl (lv_at hl 3 rfl) ?_
          refine lv_aload_n hx hb d_BL_sync_39 rfl (lv_at hl 0 rfl) ?_
          refine fh_callV (C := R_BL) (y := y_BL_writeBack) (bytes := b_BL_writeBack) (maxL := 3) (ret := none) (index := 81) (As := [.ref c0.1]) (rest := []) ⟨hx, hb, hml, hown, hG⟩ (c_BL_writeBack l E hw bl bcs bal barr dk qu qal qarr med cs cal carr bps rqs S2.mf cps sv S2.ul S2.tm S2.hd S2.up S2.wy S2.sd S2.il S2.nn S2.hi S2.mi S2.ev S2.ab hS1 hb10 (by omega) hc6 c0 kc) (cwV 1 hG (gV gm534 gm536 gs_BL_writeBack gm1 gm537) rfl rfl rfl ⟨rfl, hdy_BL_writeBack⟩ ⟨Nat.le_of_ble_eq_true rfl, Nat.le_of_ble_eq_true rfl⟩) C_BL.1 hb0 hK hZ hP hS hA rfl hl.1 rfl (Nat.le_of_ble_eq_true rfl) d_BL_sync_40 ⟨show cells + 0 + 2 ≤ 23 by omega, show slots + 0 + 79 ≤ 875 by omega⟩ (fun r h5 H locs hq9 hP hS => ?_)
          obtain ⟨rfl, rqs2, nn2, ab2, qarr2, g1, g2, g3, g4, g5⟩ := hq9
          have ed5 := hZ.edn hP
          have ew := WB.er g1 eq hnd
          have kc5 := g2.2.1.2.2 c0 hm0
          refine W.eq (g2 := F0 m 43 ls []) rfl ?_
          refine lv_aload_n hx hb d_BL_sync_43 rfl (lv_at hl 0 rfl) ?_
          refine lv_iconst (v := 0) hx hb d_BL_sync_44 (by decide) ?_
          refine fh_put hx hb hG C_CP iG_CP hown hK hP hS kc5 2 (by decide) gm279 rfl (v := .int 0) rfl rfl (Nat.le_of_ble_eq_true rfl) d_BL_sync_45 (fun H locs hP hS => ?_)
          obtain ⟨h_3, eh_4⟩ : ∃ z : fh_H, z = va_up h5 c0.1 (some (.inr (1, [.int c0.2.1, .int c0.2.2.1, .int 0]))) := ⟨_, rfl⟩
          have hP : fh_P E.1 vwCl A h_3 H := by rw [eh_4]; exact hP
          have k_5 : h_3 c0.1 = some (.inr (1, [.int c0.2.1, .int c0.2.2.1, .int 0])) := by rw [eh_4]; exact va_up_self _ _ _
          have ed6 := hZ.edn hP
          have S6 := g2.stC ed5 ed6 hm0 (v := c0.2.2.1) (d := 0) eh_4
          have B6 : BLr E h_3 bl dk med rqs2 sv (clM (wbM S2 c0.2) c0.2.1) := by
            rw [ew]
            exact ⟨bcs, bal, barr, qu, qal, qarr2, cs, cal, carr, _, cps, S6, by rw [clL_er hap.2.2.2.2.1 (by rw [eb]; exact I2.bsnd) hm0, eb]; rfl, rfl, ec, es⟩
          have K5 : KB hw h5 med := KB.of g3 (by
            intro b e hb z
            obtain ⟨m1, kq⟩ := hQ.2.1.al
            rcases z with z | z | z | z
            · rw [z, hb0] at hb; cases hb; exact Or.inr (by show ¬ (6 = 7); decide)
            · rw [z, kq] at hb; cases hb; exact Or.inr (by show ¬ (0 = 7); decide)
            · rw [z] at hb; exact Or.inr (hQ.2.1.noth hed hb)
            · obtain ⟨r, hr, z⟩ := z
              have k9 := hQ.2.2 r hr
              rw [z, k9] at hb; cases hb; exact Or.inr (by show ¬ (3 = 7); decide))
          have hbs : (clM (wbM S2 c0.2) c0.2.1).bs = clL S2.bs c0.2.1 := by show clL (wbM S2 c0.2).bs c0.2.1 = _; rw [wb_bs]
          have hq6 : (clM (wbM S2 c0.2) c0.2.1).q.length ≤ S2.q.length + 1 := wb_q S2 c0.2
          refine lv_iinc (v := ((nI i)) + 1) (lv' := [(1, .int (((nI i)) + 1)), (3, .ref c0.1), (2, .int (nI i)), (0, .ref bl)]) hx hb d_BL_sync_48 hl (k := 2) rfl rfl (by decide) rfl (fun ls hl => ?_)
          refine lv_iinc (v := ((nI i)) + 1) (lv' := [(2, .int (((nI i)) + 1)), (1, .int (((nI i)) + 1)), (3, .ref c0.1), (0, .ref bl)]) hx hb d_BL_sync_51 hl (k := 2) rfl rfl (by decide) rfl (fun ls hl => ?_)
          refine lv_goto (tgt := 17) hx hb d_BL_sync_54 (by decide) ?_
          exact ih (i + 1) _ rqs2 h_3 H locs _ _ ls [] (ep.trans e9) (by rw [hbs]; omega) (by omega) (by omega) (by omega) (by rw [hbs]; omega) ((I2.wb (I2.bsok _ hm1.1) (by omega)).cl) B6 ((hk.trans K5).trans (KB.up kc5 (by decide) eh_4)) (by rw [nI_succ]; exact lv_sw hl) hP hS
  exact loop 10 0 S rqs h _ _ _ _ ls [] rfl (by have := dc_le S.bs; have := hI.bs10; omega) (by omega) (by omega) (by omega) (by have := dc_le S.bs; omega) hI hB KB.rfl (by rw [nI_0]; exact hl) hP hS

