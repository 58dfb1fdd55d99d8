/-! COPIES: what changes them, and the dirty one of the least block. -/
theorem fh_Z.edn {E : fh_E} {A : Nat → Prop} {s : State} {H0 H : Heap} {h : fh_H} (hZ : fh_Z E A s H0) (hP : fh_P E.1 vwCl A h H) : h (fh_ed E) = none := by
  cases z : h (fh_ed E) with
  | none => rfl
  | some x => exact absurd (hP.get z).2 (by obtain ⟨cell, -, -, -, -, -, -, k⟩ := hZ.2.1; exact k)
theorem LI.isArrZ {E : fh_E} {A : Nat → Prop} {s : State} {H0 H : Heap} {h : fh_H} {al arr : Nat} {xs : List Nat} (hL : LI E h al arr xs) (hZ : fh_Z E A s H0) (hP : fh_P E.1 vwCl A h H) : (∃ x, h arr = some x) → ∃ x, h arr = some (.inl x) := hL.isArr (hZ.edn hP)
/-- an object that is no list keeps over a change of a list's cell and array -/
theorem fr_obj {h h1 : fh_H} {al arr b i : Nat} {fs gs : List Value} (hF : ∀ b, b ≠ al → b ≠ arr → h1 b = h b) (hal : h al = some (.inr (0, fs))) (har : (∃ x, h arr = some x) → ∃ x, h arr = some (.inl x)) (hb : h b = some (.inr (i, gs))) (hi : i ≠ 0) : h1 b = some (.inr (i, gs)) := LFr.ob (arr' := arr) (fun b z1 z2 _ => hF b z1 z2) (Or.inl rfl) hal har hb hi
theorem dm_li {E : fh_E} {h h1 : fh_H} {al arr : Nat} {xs : List Nat} (hF : ∀ b, b ≠ al → b ≠ arr → h1 b = h b) (hL : LI E h1 al arr xs) (hed : h (fh_ed E) = none) : Dm h h1 := fun b hb => by
  obtain ⟨md, cap, f, k1, k2, k3, k4, k5⟩ := hL
  by_cases z1 : b = al
  · rw [z1, k1] at hb; cases hb
  · by_cases z2 : b = arr
    · rcases k5 with ⟨k5, -⟩ | ⟨-, k6⟩
      · rw [z2, k5]; exact hed
      · rw [z2, k6] at hb; cases hb
    · rw [hF b z1 z2] at hb; exact hb
theorem LFr.trans {h hw h1 : fh_H} {al arr arr' : Nat} {x : va_E} (hF : ∀ b, b ≠ al → b ≠ arr → hw b = h b) (hdm : Dm h hw) (hal : hw al = some x) (hG : LFr hw h1 al arr arr') : LFr h h1 al arr arr' := by
  refine ⟨fun b z1 z2 z3 => (hG.1 b z1 z2 z3).trans (hF b z1 z2), ?_, hdm.trans hG.2.2⟩
  rcases hG.2.1 with z | z
  · exact Or.inl z
  · by_cases c : arr' = arr
    · exact Or.inl c
    · exact Or.inr ((hF arr' (Ne.symm (fh_neF hal z)) c).symm.trans z)
def dlbF (acc : Option tC) (c : tC) : Option tC := if c.2.2.2 = 0 then acc else match acc with
  | none => some c
  | some a => if c.2.1 < a.2.1 then some c else some a
theorem fo_step {α β : Type} {f : β → α → β} {xs : List α} {i : Nat} {c : α} {acc z : β} (hinv : xs.foldl f z = (xs.drop i).foldl f acc) (h : xs[i]? = some c) : xs.foldl f z = (xs.drop (i + 1)).foldl f (f acc c) := by
  rw [hinv, dr_cons h]; rfl
theorem fo_end {α β : Type} {f : β → α → β} {xs : List α} {i : Nat} {acc z : β} (hinv : xs.foldl f z = (xs.drop i).foldl f acc) (h : xs.length ≤ i) : xs.foldl f z = acc := by
  rw [hinv, List.drop_eq_nil_of_le h]; rfl

set_option maxHeartbeats 4000000 in
set_option maxRecDepth 100000 in
theorem c_CS_putLast (l : Launch) (E : fh_E) (h : fh_H) (cs al arr : Nat) (cps : List tC) (hC : CLs E h cs al arr cps) (h48 : cps.length ≤ 48) (c9 : tC) (h9 : h c9.1 = some (.inr (1, [.int c9.2.1, .int c9.2.2.1, .int c9.2.2.2]))) : fh_Met l y_CS_putLast w_CS_putLast ({ frames := 7, cells := 1, slots := 73, locals := 191 }) E [.ref cs, .ref c9.1] h (fun r h1 => r = none ∧ ∃ arr', CLs E h1 cs al arr' (cps.eraseP (fun d => d.2.1 == c9.2.1) ++ [c9]) ∧ LFr h h1 al arr arr') 1 73 := by
  refine fh_ofW (cc := b_CS_putLast) (maxL := 3) (ret := none) (by decide) rfl (Nat.le_of_ble_eq_true rfl) ?_
  intro p e s m below meth c A ls hx hb hr hml hown hts hlocks hname hnoh hadm hA hK hZ hP hS hl
  have hG : ∀ w ∈ G, w.before _ s = true := fun w hw => hts w (List.mem_cons_of_mem _ hw)
  have hown : s.vm.findClass R_CS = some m.cls := hown
  have hl : lv_has ls 3 [(0, .ref cs), (1, .ref c9.1)] := hl
  obtain ⟨hc, hL, hP1⟩ := hC
  obtain ⟨md, ha⟩ := hL.al
  rw [mp_len] at ha
  have hia := hL.isArrZ hZ hP
  have hed := hZ.edn hP
  have tail : ∀ (hw : fh_H) (cq : List tC) (v : Int32) (H : Heap) (locs : List Loc) (ls : Array Slot), cps.eraseP (fun d => d.2.1 == c9.2.1) = cq → cq.length ≤ 48 → hw cs = some (.inr (2, [.ref al])) → LI E hw al arr (cq.map (·.1)) → CPs hw cq → (∀ b, b ≠ al → b ≠ arr → hw b = h b) → Dm h hw → lv_has ls 3 [(2, .int v), (0, .ref cs), (1, .ref c9.1)] → fh_P E.1 vwCl A hw H → va_S A s.heap H locs → W p l e ({ frames := 7, cells := 1, slots := 73, locals := 191 }) s m ([.ref cs, .ref c9.1] : List Value).toArray below meth c H locs 0 0 (MQ below (fh_Post E (fun r h1 => r = none ∧ ∃ arr', CLs E h1 cs al arr' (cps.eraseP (fun d => d.2.1 == c9.2.1) ++ [c9]) ∧ LFr h h1 al arr arr') A) ([.ref cs, .ref c9.1] : List Value).toArray s 1 73 A) (F0 m 52 ls []) := by
    intro hw cq v H locs ls hcq hq48 k1 k2 k3 k4 kdm hl hP hS
    obtain ⟨md2, k5⟩ := k2.al
    have edw := hZ.edn hP
    have k9 := fr_obj k4 ha hia h9 (by decide)
    refine lv_aload_n hx hb d_CS_putLast_52 rfl (lv_at hl 1 rfl) ?_
    refine fh_get hx hb hG C_CS iG_CS hown hK hP k1 0 (by decide) gm63 rfl d_CS_putLast_53 ?_
    refine lv_aload_n hx hb d_CS_putLast_56 rfl (lv_at hl 2 rfl) ?_
    refine fh_callV (C := R_AL) (y := y_AL_add0) (bytes := b_AL_add0) (maxL := 2) (ret := (some .boolean)) (index := 33) (As := [.ref c9.1]) (rest := []) ⟨hx, hb, hml, hown, hG⟩ (c_AL_add0 l E hw al arr (cq.map (·.1)) c9.1 k2 (by rw [mp_len]; exact hq48) k3.EO (Or.inl ⟨_, k9⟩)) (cwV 1 hG (gV gm293 gm294 gm295 gm5 gm296) rfl rfl rfl ⟨rfl, hdy_AL_add0⟩ ⟨Nat.le_of_ble_eq_true rfl, Nat.le_of_ble_eq_true rfl⟩) C_AL.1 k5 hK hZ hP hS hA rfl hl.1 rfl (Nat.le_of_ble_eq_true rfl) d_CS_putLast_57 ⟨Nat.le_of_ble_eq_true rfl, Nat.le_of_ble_eq_true rfl⟩ (fun r h1 H locs hq9 hP hS => ?_)
    obtain ⟨rfl, arr1, g1, g2, g3, g4⟩ := hq9
    have hF : LFr hw h1 al arr arr1 := ⟨g2, g3, g4⟩
    have hia2 := k2.isArr (by first | exact edw)
    refine W.eq (g2 := F0 m 60 ls [.int 1]) rfl ?_
    refine lv_pop hx hb d_CS_putLast_60 rfl ?_
    rw [hcq]
    refine fh_vret hx hb hr hlocks (Nat.le_of_ble_eq_true rfl) (Nat.le_of_ble_eq_true rfl) hP hS ⟨rfl, arr1, ⟨hF.obj k5 hia2 k1 (by decide), by rw [List.map_append]; exact g1, fun d hd => ?_⟩, LFr.trans k4 kdm k5 hF⟩ d_CS_putLast_61
    rcases List.mem_append.mp hd with hd | hd
    · exact hF.obj k5 hia2 (k3 d hd) (by decide)
    · rw [List.mem_singleton.mp hd]; exact hF.obj k5 hia2 k9 (by decide)
  refine lv_iconst (v := 0) hx hb d_CS_putLast_0 (by decide) ?_
  refine lv_istore_n (lv' := [(2, .int 0), (0, .ref cs), (1, .ref c9.1)]) hx hb d_CS_putLast_1 rfl hl (by decide) rfl (fun ls hl => ?_)
  have loop : ∀ (n i : Nat) (H : Heap) (locs : List Loc) (ls : Array Slot), i + n = cps.length → (∀ j d, j < i → cps[j]? = some d → (d.2.1 == c9.2.1) = false) → lv_has ls 3 [(2, .int (nI i)), (0, .ref cs), (1, .ref c9.1)] → fh_P E.1 vwCl A h H → va_S A s.heap H locs → W p l e ({ frames := 7, cells := 1, slots := 73, locals := 191 }) s m ([.ref cs, .ref c9.1] : List Value).toArray below meth c H locs 0 0 (MQ below (fh_Post E (fun r h1 => r = none ∧ ∃ arr', CLs E h1 cs al arr' (cps.eraseP (fun d => d.2.1 == c9.2.1) ++ [c9]) ∧ LFr h h1 al arr arr') A) ([.ref cs, .ref c9.1] : List Value).toArray s 1 73 A) (F0 m 2 ls []) := by
    intro n
    induction n with
    | zero =>
      intro i H locs ls hin hinv hl hP hS
      refine lv_iload_n hx hb d_CS_putLast_2 rfl (lv_at hl 0 rfl) ?_
      refine lv_aload_n hx hb d_CS_putLast_3 rfl (lv_at hl 1 rfl) ?_
      refine fh_get hx hb hG C_CS iG_CS hown hK hP hc 0 (by decide) gm63 rfl d_CS_putLast_4 ?_
      refine fh_callV (C := R_AL) (y := y_AL_size) (bytes := b_AL_size) (maxL := 1) (ret := (some .int)) (index := 16) (As := []) (rest := [.int (nI i)]) ⟨hx, hb, hml, hown, hG⟩ (c_AL_size l E h al (.ref arr) (nI cps.length) md ha) (cwV 0 hG (gV gm244 gm165 gm166 gm5 gm167) rfl rfl rfl ⟨rfl, hdy_AL_size⟩ ⟨Nat.le_of_ble_eq_true rfl, Nat.le_of_ble_eq_true rfl⟩) C_AL.1 ha hK hZ hP hS hA rfl hl.1 rfl (Nat.le_of_ble_eq_true rfl) d_CS_putLast_7 ⟨Nat.le_of_ble_eq_true rfl, Nat.le_of_ble_eq_true rfl⟩ (fun r h1 H locs hq9 hP hS => ?_)
      obtain ⟨rfl, e9⟩ := hq9
      rw [e9] at hP
      refine W.eq (g2 := F0 m 10 ls [.int (nI cps.length), .int (nI i)]) rfl ?_
      refine lv_icmp_ge (tgt := 52) hx hb d_CS_putLast_10 (by decide) (fun c_1 => ?_) (fun c_1 => ?_)
      · exact tail h cps _ _ _ _ (ep_end (fun j d hj => hinv j d (by omega))) h48 hc hL hP1 (fun _ _ _ => rfl) (fun _ z => z) hl hP hS
      · exact absurd (nI_le (by omega) (by omega)) c_1
    | succ n ih =>
      intro i H locs ls hin hinv hl hP hS
      refine lv_iload_n hx hb d_CS_putLast_2 rfl (lv_at hl 0 rfl) ?_
      refine lv_aload_n hx hb d_CS_putLast_3 rfl (lv_at hl 1 rfl) ?_
      refine fh_get hx hb hG C_CS iG_CS hown hK hP hc 0 (by decide) gm63 rfl d_CS_putLast_4 ?_
      refine fh_callV (C := R_AL) (y := y_AL_size) (bytes := b_AL_size) (maxL := 1) (ret := (some .int)) (index := 16) (As := []) (rest := [.int (nI i)]) ⟨hx, hb, hml, hown, hG⟩ (c_AL_size l E h al (.ref arr) (nI cps.length) md ha) (cwV 0 hG (gV gm244 gm165 gm166 gm5 gm167) rfl rfl rfl ⟨rfl, hdy_AL_size⟩ ⟨Nat.le_of_ble_eq_true rfl, Nat.le_of_ble_eq_true rfl⟩) C_AL.1 ha hK hZ hP hS hA rfl hl.1 rfl (Nat.le_of_ble_eq_true rfl) d_CS_putLast_7 ⟨Nat.le_of_ble_eq_true rfl, Nat.le_of_ble_eq_true rfl⟩ (fun r h1 H locs hq9 hP hS => ?_)
      obtain ⟨rfl, e9⟩ := hq9
      rw [e9] at hP
      refine W.eq (g2 := F0 m 10 ls [.int (nI cps.length), .int (nI i)]) rfl ?_
      refine lv_icmp_ge (tgt := 52) hx hb d_CS_putLast_10 (by decide) (fun c_2 => ?_) (fun c_2 => ?_)
      · exact absurd ((nI_leI (by omega) (by omega)).mp c_2) (by omega)
      · obtain ⟨c0, hc0⟩ := mp_get (xs := cps) (i := i) (by omega)
        have kc := hP1 c0 (List.mem_of_getElem? hc0)
        refine lv_aload_n hx hb d_CS_putLast_13 rfl (lv_at hl 1 rfl) ?_
        refine fh_get hx hb hG C_CS iG_CS hown hK hP hc 0 (by decide) gm63 rfl d_CS_putLast_14 ?_
        refine lv_iload_n hx hb d_CS_putLast_17 rfl (lv_at hl 0 rfl) ?_
        refine fh_callV (C := R_AL) (y := y_AL_get) (bytes := b_AL_get) (maxL := 2) (ret := (some (.object "java/lang/Object"))) (index := 20) (As := [.int (nI i)]) (rest := []) ⟨hx, hb, hml, hown, hG⟩ (c_AL_get l E h al arr (cps.map (·.1)) i c0.1 hL (mp_at hc0)) (cwV 1 hG (gV gm264 gm185 gm186 gm5 gm187) rfl rfl rfl ⟨rfl, hdy_AL_get⟩ ⟨Nat.le_of_ble_eq_true rfl, Nat.le_of_ble_eq_true rfl⟩) C_AL.1 ha hK hZ hP hS hA rfl hl.1 rfl (Nat.le_of_ble_eq_true rfl) d_CS_putLast_18 ⟨Nat.le_of_ble_eq_true rfl, Nat.le_of_ble_eq_true rfl⟩ (fun r h1 H locs hq9 hP hS => ?_)
        obtain ⟨rfl, e9⟩ := hq9
        rw [e9] at hP
        refine W.eq (g2 := F0 m 21 ls [.ref c0.1]) rfl ?_
        refine va_castY (C := R_CP) hx hb hown (hG _ gm265) (fhK hZ _ (by simp [fhCast])) (fh_recv hK hP C_CP.1 kc) d_CS_putLast_21 ?_
        refine fh_get hx hb hG C_CP iG_CP hown hK hP kc 0 (by decide) gm273 rfl d_CS_putLast_24 ?_
        refine lv_aload_n hx hb d_CS_putLast_27 rfl (lv_at hl 2 rfl) ?_
        refine fh_get hx hb hG C_CP iG_CP hown hK hP h9 0 (by decide) gm273 rfl d_CS_putLast_28 ?_
        refine lv_icmp_ne (tgt := 46) hx hb d_CS_putLast_31 (by decide) (fun c_3 => ?_) (fun c_3 => ?_)
        · skip
          refine lv_iinc (v := ((nI i)) + 1) (lv' := [(2, .int (((nI i)) + 1)), (0, .ref cs), (1, .ref c9.1)]) hx hb d_CS_putLast_46 hl (k := 0) rfl rfl (by decide) rfl (fun ls hl => ?_)
          refine lv_goto (tgt := 2) hx hb d_CS_putLast_49 (by decide) ?_
          refine ih (i + 1) _ _ _ (by omega) (fun j d hj hd => ?_) (by rw [← nI_1]; exact lv_sub hl [0, 1, 2] rfl) hP hS
          rcases Nat.lt_or_ge j i with z | z
          · exact hinv j d z hd
          · rw [show j = i by omega, hc0] at hd; cases hd; simpa using c_3
        · skip
          refine lv_aload_n hx hb d_CS_putLast_34 rfl (lv_at hl 1 rfl) ?_
          refine fh_get hx hb hG C_CS iG_CS hown hK hP hc 0 (by decide) gm63 rfl d_CS_putLast_35 ?_
          refine lv_iload_n hx hb d_CS_putLast_38 rfl (lv_at hl 0 rfl) ?_
          refine fh_callV (C := R_AL) (y := y_AL_remove) (bytes := b_AL_remove) (maxL := 4) (ret := (some (.object "java/lang/Object"))) (index := 30) (As := [.int (nI i)]) (rest := []) ⟨hx, hb, hml, hown, hG⟩ (c_AL_remove l E h al arr (cps.map (·.1)) i c0.1 hL (mp_at hc0) hP1.EO) (cwV 1 hG (gV gm292 gm230 gm231 gm5 gm232) rfl rfl rfl ⟨rfl, hdy_AL_remove⟩ ⟨Nat.le_of_ble_eq_true rfl, Nat.le_of_ble_eq_true rfl⟩) C_AL.1 ha hK hZ hP hS hA rfl hl.1 rfl (Nat.le_of_ble_eq_true rfl) d_CS_putLast_39 ⟨Nat.le_of_ble_eq_true rfl, Nat.le_of_ble_eq_true rfl⟩ (fun r h1 H locs hq9 hP hS => ?_)
          obtain ⟨rfl, g1, g2⟩ := hq9
          refine W.eq (g2 := F0 m 42 ls [.ref c0.1]) rfl ?_
          refine lv_pop hx hb d_CS_putLast_42 rfl ?_
          refine lv_goto (tgt := 52) hx hb d_CS_putLast_43 (by decide) ?_
          have g3 : ∀ d ∈ cps.eraseIdx i, h1 d.1 = some (.inr (1, [.int d.2.1, .int d.2.2.1, .int d.2.2.2])) := fun d hd => fr_obj g2 ha hia (hP1 d (List.mem_of_mem_eraseIdx hd)) (by decide)
          exact tail h1 (cps.eraseIdx i) _ _ _ _ (ep_pos hinv hc0 (by simpa using c_3)) (Nat.le_trans (List.length_eraseIdx_le ..) h48) (fr_obj g2 ha hia hc (by decide)) (by rw [← er_map]; exact g1) g3 g2 (dm_li g2 g1 hed) hl hP hS
  exact loop cps.length 0 _ _ _ (by omega) (fun j d hj => absurd hj (Nat.not_lt_zero j)) (by rw [nI_0]; exact hl) hP hS

set_option maxHeartbeats 4000000 in
set_option maxRecDepth 100000 in
theorem c_CS_takeFirst_nil (l : Launch) (E : fh_E) (h : fh_H) (cs al arr : Nat) (hC : CLs E h cs al arr []) : fh_Met l y_CS_takeFirst w_CS_takeFirst ({ frames := 3, cells := 0, slots := 0, locals := 106 }) E [.ref cs] h (fun r h1 => r = some .null ∧ h1 = h) 0 0 := by
  refine fh_ofW (cc := b_CS_takeFirst) (maxL := 1) (ret := (some (.object "BlockLayer$Copy"))) (by decide) rfl (Nat.le_of_ble_eq_true rfl) ?_
  intro p e s m below meth c A ls hx hb hr hml hown hts hlocks hname hnoh hadm hA hK hZ hP hS hl
  have hG : ∀ w ∈ G, w.before _ s = true := fun w hw => hts w (List.mem_cons_of_mem _ hw)
  have hown : s.vm.findClass R_CS = some m.cls := hown
  have hl : lv_has ls 1 [(0, .ref cs)] := hl
  obtain ⟨hc, hL, hP1⟩ := hC
  obtain ⟨md, ha⟩ := hL.al
  have ha : h al = some (.inr (0, [.ref arr, .int (nI 0), .int md])) := ha
  refine lv_aload_n hx hb d_CS_takeFirst_0 rfl (lv_at hl 0 rfl) ?_
  refine fh_get hx hb hG C_CS iG_CS hown hK hP hc 0 (by decide) gm63 rfl d_CS_takeFirst_1 ?_
  refine fh_callV (C := R_AL) (y := y_AL_isEmpty) (bytes := b_AL_isEmpty) (maxL := 1) (ret := (some .boolean)) (index := 37) (As := []) (rest := []) ⟨hx, hb, hml, hown, hG⟩ (c_AL_isEmpty l E h al (.ref arr) (nI 0) md ha) (cwV 0 hG (gV gm355 gm356 gm357 gm5 gm358) rfl rfl rfl ⟨rfl, hdy_AL_isEmpty⟩ ⟨Nat.le_of_ble_eq_true rfl, Nat.le_of_ble_eq_true rfl⟩) C_AL.1 ha hK hZ hP hS hA rfl hl.1 rfl (Nat.le_of_ble_eq_true rfl) d_CS_takeFirst_4 ⟨Nat.le_of_ble_eq_true rfl, Nat.le_of_ble_eq_true rfl⟩ (fun r h1 H locs hq9 hP hS => ?_)
  obtain ⟨rfl, e9⟩ := hq9
  rw [e9] at hP
  refine W.eq (g2 := F0 m 7 ls [.int (if nI 0 = 0 then 1 else 0)]) rfl ?_
  refine W.eq (g2 := F0 m 7 ls [.int 1]) (by rw [if_pos nI_0]) ?_
  refine lv_if_eq (tgt := 14) hx hb d_CS_takeFirst_7 (by decide) (fun c_1 => ?_) (fun c_1 => ?_)
  · skip
    exact absurd c_1 (by decide)
  · skip
    refine lv_null hx hb d_CS_takeFirst_10 ?_
    refine lv_goto (tgt := 25) hx hb d_CS_takeFirst_11 (by decide) ?_
    exact fh_aret hx hb hr (Or.inl ⟨_, rfl⟩) (Or.inl rfl) hlocks (Nat.le_of_ble_eq_true rfl) (Nat.le_of_ble_eq_true rfl) hP hS ⟨rfl, rfl⟩ d_CS_takeFirst_25

set_option maxHeartbeats 4000000 in
set_option maxRecDepth 100000 in
theorem c_CS_takeFirst_cons (l : Launch) (E : fh_E) (h : fh_H) (cs al arr : Nat) (c0 : tC) (cps : List tC) (hC : CLs E h cs al arr (c0 :: cps)) (h48 : cps.length ≤ 48) : fh_Met l y_CS_takeFirst w_CS_takeFirst ({ frames := 3, cells := 0, slots := 0, locals := 106 }) E [.ref cs] h (fun r h1 => r = some (.ref c0.1) ∧ CLs E h1 cs al arr cps ∧ ∀ b, b ≠ al → b ≠ arr → h1 b = h b) 0 0 := by
  refine fh_ofW (cc := b_CS_takeFirst) (maxL := 1) (ret := (some (.object "BlockLayer$Copy"))) (by decide) rfl (Nat.le_of_ble_eq_true rfl) ?_
  intro p e s m below meth c A ls hx hb hr hml hown hts hlocks hname hnoh hadm hA hK hZ hP hS hl
  have hG : ∀ w ∈ G, w.before _ s = true := fun w hw => hts w (List.mem_cons_of_mem _ hw)
  have hown : s.vm.findClass R_CS = some m.cls := hown
  have hl : lv_has ls 1 [(0, .ref cs)] := hl
  obtain ⟨hc, hL, hP1⟩ := hC
  obtain ⟨md, ha⟩ := hL.al
  have ha : h al = some (.inr (0, [.ref arr, .int (nI (cps.length + 1)), .int md])) := by simpa using ha
  have hia := hL.isArrZ hZ hP
  have kc := hP1 c0 List.mem_cons_self
  refine lv_aload_n hx hb d_CS_takeFirst_0 rfl (lv_at hl 0 rfl) ?_
  refine fh_get hx hb hG C_CS iG_CS hown hK hP hc 0 (by decide) gm63 rfl d_CS_takeFirst_1 ?_
  refine fh_callV (C := R_AL) (y := y_AL_isEmpty) (bytes := b_AL_isEmpty) (maxL := 1) (ret := (some .boolean)) (index := 37) (As := []) (rest := []) ⟨hx, hb, hml, hown, hG⟩ (c_AL_isEmpty l E h al (.ref arr) (nI (cps.length + 1)) md ha) (cwV 0 hG (gV gm355 gm356 gm357 gm5 gm358) rfl rfl rfl ⟨rfl, hdy_AL_isEmpty⟩ ⟨Nat.le_of_ble_eq_true rfl, Nat.le_of_ble_eq_true rfl⟩) C_AL.1 ha hK hZ hP hS hA rfl hl.1 rfl (Nat.le_of_ble_eq_true rfl) d_CS_takeFirst_4 ⟨Nat.le_of_ble_eq_true rfl, Nat.le_of_ble_eq_true rfl⟩ (fun r h1 H locs hq9 hP hS => ?_)
  obtain ⟨rfl, e9⟩ := hq9
  rw [e9] at hP
  refine W.eq (g2 := F0 m 7 ls [.int (if nI (cps.length + 1) = 0 then 1 else 0)]) rfl ?_
  refine W.eq (g2 := F0 m 7 ls [.int 0]) (by rw [if_neg (nI_ne0 (by omega) (by omega))]) ?_
  refine lv_if_eq (tgt := 14) hx hb d_CS_takeFirst_7 (by decide) (fun c_1 => ?_) (fun c_1 => ?_)
  · skip
    refine lv_aload_n hx hb d_CS_takeFirst_14 rfl (lv_at hl 0 rfl) ?_
    refine fh_get hx hb hG C_CS iG_CS hown hK hP hc 0 (by decide) gm63 rfl d_CS_takeFirst_15 ?_
    refine lv_iconst (v := 0) hx hb d_CS_takeFirst_18 (by decide) ?_
    refine W.eq (g2 := F0 m 19 ls [.int (nI 0), .ref al]) (by rw [nI_0]) ?_
    refine fh_callV (C := R_AL) (y := y_AL_remove) (bytes := b_AL_remove) (maxL := 4) (ret := (some (.object "java/lang/Object"))) (index := 30) (As := [.int (nI 0)]) (rest := []) ⟨hx, hb, hml, hown, hG⟩ (c_AL_remove l E h al arr ((c0 :: cps).map (·.1)) 0 c0.1 hL rfl hP1.EO) (cwV 1 hG (gV gm292 gm230 gm231 gm5 gm232) rfl rfl rfl ⟨rfl, hdy_AL_remove⟩ ⟨Nat.le_of_ble_eq_true rfl, Nat.le_of_ble_eq_true rfl⟩) C_AL.1 ha hK hZ hP hS hA rfl hl.1 rfl (Nat.le_of_ble_eq_true rfl) d_CS_takeFirst_19 ⟨Nat.le_of_ble_eq_true rfl, Nat.le_of_ble_eq_true rfl⟩ (fun r h1 H locs hq9 hP hS => ?_)
    obtain ⟨rfl, g1, g2⟩ := hq9
    refine W.eq (g2 := F0 m 22 ls [.ref c0.1]) rfl ?_
    have kc1 := fr_obj g2 ha hia kc (by decide)
    refine va_castY (C := R_CP) hx hb hown (hG _ gm265) (fhK hZ _ (by simp [fhCast])) (fh_recv hK hP C_CP.1 kc1) d_CS_takeFirst_22 ?_
    exact fh_aret hx hb hr (Or.inl ⟨_, rfl⟩) (Or.inr ⟨_, rfl⟩) hlocks (Nat.le_of_ble_eq_true rfl) (Nat.le_of_ble_eq_true rfl) hP hS ⟨rfl, ⟨fr_obj g2 ha hia hc (by decide), g1, fun d hd => fr_obj g2 ha hia (hP1 d (List.mem_cons_of_mem _ hd)) (by decide)⟩, g2⟩ d_CS_takeFirst_25
  · skip
    exact absurd rfl c_1

set_option maxHeartbeats 4000000 in
set_option maxRecDepth 100000 in
theorem c_CS_clear (l : Launch) (E : fh_E) (h : fh_H) (cs al arr : Nat) (cps : List tC) (hC : CLs E h cs al arr cps) : fh_Met l y_CS_clear w_CS_clear ({ frames := 1, cells := 0, slots := 0, locals := 23 }) E [.ref cs] h (fun r h1 => r = none ∧ CLs E h1 cs al arr [] ∧ ∀ b, b ≠ al → b ≠ arr → h1 b = h b) 0 0 := by
  refine fh_ofW (cc := b_CS_clear) (maxL := 1) (ret := none) (by decide) rfl (Nat.le_of_ble_eq_true rfl) ?_
  intro p e s m below meth c A ls hx hb hr hml hown hts hlocks hname hnoh hadm hA hK hZ hP hS hl
  have hG : ∀ w ∈ G, w.before _ s = true := fun w hw => hts w (List.mem_cons_of_mem _ hw)
  have hown : s.vm.findClass R_CS = some m.cls := hown
  have hl : lv_has ls 1 [(0, .ref cs)] := hl
  obtain ⟨hc, hL, hP1⟩ := hC
  obtain ⟨md, ha⟩ := hL.al
  have hia := hL.isArrZ hZ hP
  refine lv_aload_n hx hb d_CS_clear_0 rfl (lv_at hl 0 rfl) ?_
  refine fh_get hx hb hG C_CS iG_CS hown hK hP hc 0 (by decide) gm63 rfl d_CS_clear_1 ?_
  refine fh_callV (C := R_AL) (y := y_AL_clear) (bytes := b_AL_clear) (maxL := 4) (ret := none) (index := 45) (As := []) (rest := []) ⟨hx, hb, hml, hown, hG⟩ (c_AL_clear l E h al arr (cps.map (·.1)) hL) (cwV 0 hG (gV gm384 gm385 gm386 gm5 gm387) rfl rfl rfl ⟨rfl, hdy_AL_clear⟩ ⟨Nat.le_of_ble_eq_true rfl, Nat.le_of_ble_eq_true rfl⟩) C_AL.1 ha hK hZ hP hS hA rfl hl.1 rfl (Nat.le_of_ble_eq_true rfl) d_CS_clear_4 ⟨Nat.le_of_ble_eq_true rfl, Nat.le_of_ble_eq_true rfl⟩ (fun r h1 H locs hq9 hP hS => ?_)
  obtain ⟨rfl, g1, g2⟩ := hq9
  refine W.eq (g2 := F0 m 7 ls []) rfl ?_
  exact fh_vret hx hb hr hlocks (Nat.le_of_ble_eq_true rfl) (Nat.le_of_ble_eq_true rfl) hP hS ⟨rfl, ⟨fr_obj g2 ha hia hc (by decide), g1, fun d hd => absurd hd List.not_mem_nil⟩, g2⟩ d_CS_clear_7

set_option maxHeartbeats 4000000 in
set_option maxRecDepth 100000 in
theorem c_CS_dirtyOfLeastBlock (l : Launch) (E : fh_E) (h : fh_H) (cs al arr : Nat) (cps : List tC) (hC : CLs E h cs al arr cps) (h48 : cps.length ≤ 48) : fh_Met l y_CS_dirtyOfLeastBlock w_CS_dirtyOfLeastBlock ({ frames := 3, cells := 0, slots := 0, locals := 64 }) E [.ref cs] h (fun r h1 => r = some (va_rf ((cps.foldl dlbF none).map (·.1))) ∧ h1 = h) 0 0 := by
  refine fh_ofW (cc := b_CS_dirtyOfLeastBlock) (maxL := 4) (ret := (some (.object "BlockLayer$Copy"))) (by decide) rfl (Nat.le_of_ble_eq_true rfl) ?_
  intro p e s m below meth c A ls hx hb hr hml hown hts hlocks hname hnoh hadm hA hK hZ hP hS hl
  have hG : ∀ w ∈ G, w.before _ s = true := fun w hw => hts w (List.mem_cons_of_mem _ hw)
  have hown : s.vm.findClass R_CS = some m.cls := hown
  have hl : lv_has ls 4 [(0, .ref cs)] := hl
  obtain ⟨hc, hL, hP1⟩ := hC
  obtain ⟨md, ha⟩ := hL.al
  rw [mp_len] at ha
  refine lv_null hx hb d_CS_dirtyOfLeastBlock_0 ?_
  refine lv_astore_nN (lv' := [(1, .null), (0, .ref cs)]) hx hb d_CS_dirtyOfLeastBlock_1 rfl hl (by decide) rfl (fun ls hl => ?_)
  refine lv_iconst (v := 0) hx hb d_CS_dirtyOfLeastBlock_2 (by decide) ?_
  refine lv_istore_n (lv' := [(2, .int 0), (1, .null), (0, .ref cs)]) hx hb d_CS_dirtyOfLeastBlock_3 rfl hl (by decide) rfl (fun ls hl => ?_)
  have loop : ∀ (n i : Nat) (acc : Option tC) (H : Heap) (locs : List Loc) (ls : Array Slot), i + n = cps.length → (∀ a, acc = some a → a ∈ cps) → cps.foldl dlbF none = (cps.drop i).foldl dlbF acc → lv_has ls 4 [(2, .int (nI i)), (1, va_rf (acc.map (·.1))), (0, .ref cs)] → fh_P E.1 vwCl A h H → va_S A s.heap H locs → W p l e ({ frames := 3, cells := 0, slots := 0, locals := 64 }) s m ([.ref cs] : List Value).toArray below meth c H locs 0 0 (MQ below (fh_Post E (fun r h1 => r = some (va_rf ((cps.foldl dlbF none).map (·.1))) ∧ h1 = h) A) ([.ref cs] : List Value).toArray s 0 0 A) (F0 m 4 ls []) := by
    intro n
    induction n with
    | zero =>
      intro i acc H locs ls hin hac hinv hl hP hS
      rcases acc with _ | a
      · have hl : lv_has ls 4 [(2, .int (nI i)), (1, .null), (0, .ref cs)] := hl
        refine lv_iload_n hx hb d_CS_dirtyOfLeastBlock_4 rfl (lv_at hl 0 rfl) ?_
        refine lv_aload_n hx hb d_CS_dirtyOfLeastBlock_5 rfl (lv_at hl 2 rfl) ?_
        refine fh_get hx hb hG C_CS iG_CS hown hK hP hc 0 (by decide) gm63 rfl d_CS_dirtyOfLeastBlock_6 ?_
        refine fh_callV (C := R_AL) (y := y_AL_size) (bytes := b_AL_size) (maxL := 1) (ret := (some .int)) (index := 16) (As := []) (rest := [.int (nI i)]) ⟨hx, hb, hml, hown, hG⟩ (c_AL_size l E h al (.ref arr) (nI cps.length) md ha) (cwV 0 hG (gV gm244 gm165 gm166 gm5 gm167) rfl rfl rfl ⟨rfl, hdy_AL_size⟩ ⟨Nat.le_of_ble_eq_true rfl, Nat.le_of_ble_eq_true rfl⟩) C_AL.1 ha hK hZ hP hS hA rfl hl.1 rfl (Nat.le_of_ble_eq_true rfl) d_CS_dirtyOfLeastBlock_9 ⟨Nat.le_of_ble_eq_true rfl, Nat.le_of_ble_eq_true rfl⟩ (fun r h1 H locs hq9 hP hS => ?_)
        obtain ⟨rfl, e9⟩ := hq9
        rw [e9] at hP
        refine W.eq (g2 := F0 m 12 ls [.int (nI cps.length), .int (nI i)]) rfl ?_
        refine lv_icmp_ge (tgt := 57) hx hb d_CS_dirtyOfLeastBlock_12 (by decide) (fun c_1 => ?_) (fun c_1 => ?_)
        · skip
          refine lv_aload_nN hx hb d_CS_dirtyOfLeastBlock_57 rfl (lv_at hl 1 rfl) ?_
          exact fh_aret hx hb hr (Or.inl ⟨_, rfl⟩) (Or.inl rfl) hlocks (Nat.le_of_ble_eq_true rfl) (Nat.le_of_ble_eq_true rfl) hP hS ⟨by rw [fo_end hinv (by omega)]; rfl, rfl⟩ d_CS_dirtyOfLeastBlock_58
        · exact absurd (nI_le (by omega) (by omega)) c_1
      · have hl : lv_has ls 4 [(2, .int (nI i)), (1, .ref a.1), (0, .ref cs)] := hl
        have ka := hP1 a (hac a rfl)
        refine lv_iload_n hx hb d_CS_dirtyOfLeastBlock_4 rfl (lv_at hl 0 rfl) ?_
        refine lv_aload_n hx hb d_CS_dirtyOfLeastBlock_5 rfl (lv_at hl 2 rfl) ?_
        refine fh_get hx hb hG C_CS iG_CS hown hK hP hc 0 (by decide) gm63 rfl d_CS_dirtyOfLeastBlock_6 ?_
        refine fh_callV (C := R_AL) (y := y_AL_size) (bytes := b_AL_size) (maxL := 1) (ret := (some .int)) (index := 16) (As := []) (rest := [.int (nI i)]) ⟨hx, hb, hml, hown, hG⟩ (c_AL_size l E h al (.ref arr) (nI cps.length) md ha) (cwV 0 hG (gV gm244 gm165 gm166 gm5 gm167) rfl rfl rfl ⟨rfl, hdy_AL_size⟩ ⟨Nat.le_of_ble_eq_true rfl, Nat.le_of_ble_eq_true rfl⟩) C_AL.1 ha hK hZ hP hS hA rfl hl.1 rfl (Nat.le_of_ble_eq_true rfl) d_CS_dirtyOfLeastBlock_9 ⟨Nat.le_of_ble_eq_true rfl, Nat.le_of_ble_eq_true rfl⟩ (fun r h1 H locs hq9 hP hS => ?_)
        obtain ⟨rfl, e9⟩ := hq9
        rw [e9] at hP
        refine W.eq (g2 := F0 m 12 ls [.int (nI cps.length), .int (nI i)]) rfl ?_
        refine lv_icmp_ge (tgt := 57) hx hb d_CS_dirtyOfLeastBlock_12 (by decide) (fun c_2 => ?_) (fun c_2 => ?_)
        · skip
          refine lv_aload_n hx hb d_CS_dirtyOfLeastBlock_57 rfl (lv_at hl 1 rfl) ?_
          exact fh_aret hx hb hr (Or.inl ⟨_, rfl⟩) (Or.inr ⟨_, rfl⟩) hlocks (Nat.le_of_ble_eq_true rfl) (Nat.le_of_ble_eq_true rfl) hP hS ⟨by rw [fo_end hinv (by omega)]; rfl, rfl⟩ d_CS_dirtyOfLeastBlock_58
        · exact absurd (nI_le (by omega) (by omega)) c_2
    | succ n ih =>
      intro i acc H locs ls hin hac hinv hl hP hS
      rcases acc with _ | a
      · have hl : lv_has ls 4 [(2, .int (nI i)), (1, .null), (0, .ref cs)] := hl
        refine lv_iload_n hx hb d_CS_dirtyOfLeastBlock_4 rfl (lv_at hl 0 rfl) ?_
        refine lv_aload_n hx hb d_CS_dirtyOfLeastBlock_5 rfl (lv_at hl 2 rfl) ?_
        refine fh_get hx hb hG C_CS iG_CS hown hK hP hc 0 (by decide) gm63 rfl d_CS_dirtyOfLeastBlock_6 ?_
        refine fh_callV (C := R_AL) (y := y_AL_size) (bytes := b_AL_size) (maxL := 1) (ret := (some .int)) (index := 16) (As := []) (rest := [.int (nI i)]) ⟨hx, hb, hml, hown, hG⟩ (c_AL_size l E h al (.ref arr) (nI cps.length) md ha) (cwV 0 hG (gV gm244 gm165 gm166 gm5 gm167) rfl rfl rfl ⟨rfl, hdy_AL_size⟩ ⟨Nat.le_of_ble_eq_true rfl, Nat.le_of_ble_eq_true rfl⟩) C_AL.1 ha hK hZ hP hS hA rfl hl.1 rfl (Nat.le_of_ble_eq_true rfl) d_CS_dirtyOfLeastBlock_9 ⟨Nat.le_of_ble_eq_true rfl, Nat.le_of_ble_eq_true rfl⟩ (fun r h1 H locs hq9 hP hS => ?_)
        obtain ⟨rfl, e9⟩ := hq9
        rw [e9] at hP
        refine W.eq (g2 := F0 m 12 ls [.int (nI cps.length), .int (nI i)]) rfl ?_
        refine lv_icmp_ge (tgt := 57) hx hb d_CS_dirtyOfLeastBlock_12 (by decide) (fun c_3 => ?_) (fun c_3 => ?_)
        · exact absurd ((nI_leI (by omega) (by omega)).mp c_3) (by omega)
        · obtain ⟨c0, hc0⟩ := mp_get (xs := cps) (i := i) (by omega)
          have hm0 := List.mem_of_getElem? hc0
          have kc := hP1 c0 hm0
          have hst := fo_step hinv hc0
          refine lv_aload_n hx hb d_CS_dirtyOfLeastBlock_15 rfl (lv_at hl 2 rfl) ?_
          refine fh_get hx hb hG C_CS iG_CS hown hK hP hc 0 (by decide) gm63 rfl d_CS_dirtyOfLeastBlock_16 ?_
          refine lv_iload_n hx hb d_CS_dirtyOfLeastBlock_19 rfl (lv_at hl 0 rfl) ?_
          refine fh_callV (C := R_AL) (y := y_AL_get) (bytes := b_AL_get) (maxL := 2) (ret := (some (.object "java/lang/Object"))) (index := 20) (As := [.int (nI i)]) (rest := []) ⟨hx, hb, hml, hown, hG⟩ (c_AL_get l E h al arr (cps.map (·.1)) i c0.1 hL (mp_at hc0)) (cwV 1 hG (gV gm264 gm185 gm186 gm5 gm187) rfl rfl rfl ⟨rfl, hdy_AL_get⟩ ⟨Nat.le_of_ble_eq_true rfl, Nat.le_of_ble_eq_true rfl⟩) C_AL.1 ha hK hZ hP hS hA rfl hl.1 rfl (Nat.le_of_ble_eq_true rfl) d_CS_dirtyOfLeastBlock_20 ⟨Nat.le_of_ble_eq_true rfl, Nat.le_of_ble_eq_true rfl⟩ (fun r h1 H locs hq9 hP hS => ?_)
          obtain ⟨rfl, e9⟩ := hq9
          rw [e9] at hP
          refine W.eq (g2 := F0 m 23 ls [.ref c0.1]) rfl ?_
          refine va_castY (C := R_CP) hx hb hown (hG _ gm265) (fhK hZ _ (by simp [fhCast])) (fh_recv hK hP C_CP.1 kc) d_CS_dirtyOfLeastBlock_23 ?_
          refine lv_astore_n (lv' := [(3, .ref c0.1), (2, .int (nI i)), (1, .null), (0, .ref cs)]) hx hb d_CS_dirtyOfLeastBlock_26 rfl hl (by decide) rfl (fun ls hl => ?_)
          refine lv_aload_n hx hb d_CS_dirtyOfLeastBlock_27 rfl (lv_at hl 0 rfl) ?_
          refine fh_get hx hb hG C_CP iG_CP hown hK hP kc 2 (by decide) gm280 rfl d_CS_dirtyOfLeastBlock_28 ?_
          refine lv_if_eq (tgt := 51) hx hb d_CS_dirtyOfLeastBlock_31 (by decide) (fun c_4 => ?_) (fun c_4 => ?_)
          · skip
            refine lv_iinc (v := ((nI i)) + 1) (lv' := [(2, .int (((nI i)) + 1)), (3, .ref c0.1), (1, .null), (0, .ref cs)]) hx hb d_CS_dirtyOfLeastBlock_51 hl (k := 1) rfl rfl (by decide) rfl (fun ls hl => ?_)
            refine lv_goto (tgt := 4) hx hb d_CS_dirtyOfLeastBlock_54 (by decide) ?_
            exact ih (i + 1) none _ _ _ (by omega) (hac) (by rw [hst]; unfold dlbF; rw [if_pos c_4]) (by rw [← nI_1]; exact lv_sub hl [0, 2, 3] rfl) hP hS
          · skip
            refine lv_aload_nN hx hb d_CS_dirtyOfLeastBlock_34 rfl (lv_at hl 2 rfl) ?_
            refine lv_ifnullN (tgt := 49) hx hb d_CS_dirtyOfLeastBlock_35 (by decide) ?_
            refine lv_aload_n hx hb d_CS_dirtyOfLeastBlock_49 rfl (lv_at hl 0 rfl) ?_
            refine lv_astore_n (lv' := [(1, .ref c0.1), (3, .ref c0.1), (2, .int (nI i)), (0, .ref cs)]) hx hb d_CS_dirtyOfLeastBlock_50 rfl hl (by decide) rfl (fun ls hl => ?_)
            refine lv_iinc (v := ((nI i)) + 1) (lv' := [(2, .int (((nI i)) + 1)), (1, .ref c0.1), (3, .ref c0.1), (0, .ref cs)]) hx hb d_CS_dirtyOfLeastBlock_51 hl (k := 2) rfl rfl (by decide) rfl (fun ls hl => ?_)
            refine lv_goto (tgt := 4) hx hb d_CS_dirtyOfLeastBlock_54 (by decide) ?_
            exact ih (i + 1) (some c0) _ _ _ (by omega) (fun a ha => by cases ha; exact hm0) (by rw [hst]; unfold dlbF; rw [if_neg c_4]) (by rw [← nI_1]; exact lv_sub hl [0, 1, 3] rfl) hP hS
      · have hl : lv_has ls 4 [(2, .int (nI i)), (1, .ref a.1), (0, .ref cs)] := hl
        have ka := hP1 a (hac a rfl)
        refine lv_iload_n hx hb d_CS_dirtyOfLeastBlock_4 rfl (lv_at hl 0 rfl) ?_
        refine lv_aload_n hx hb d_CS_dirtyOfLeastBlock_5 rfl (lv_at hl 2 rfl) ?_
        refine fh_get hx hb hG C_CS iG_CS hown hK hP hc 0 (by decide) gm63 rfl d_CS_dirtyOfLeastBlock_6 ?_
        refine fh_callV (C := R_AL) (y := y_AL_size) (bytes := b_AL_size) (maxL := 1) (ret := (some .int)) (index := 16) (As := []) (rest := [.int (nI i)]) ⟨hx, hb, hml, hown, hG⟩ (c_AL_size l E h al (.ref arr) (nI cps.length) md ha) (cwV 0 hG (gV gm244 gm165 gm166 gm5 gm167) rfl rfl rfl ⟨rfl, hdy_AL_size⟩ ⟨Nat.le_of_ble_eq_true rfl, Nat.le_of_ble_eq_true rfl⟩) C_AL.1 ha hK hZ hP hS hA rfl hl.1 rfl (Nat.le_of_ble_eq_true rfl) d_CS_dirtyOfLeastBlock_9 ⟨Nat.le_of_ble_eq_true rfl, Nat.le_of_ble_eq_true rfl⟩ (fun r h1 H locs hq9 hP hS => ?_)
        obtain ⟨rfl, e9⟩ := hq9
        rw [e9] at hP
        refine W.eq (g2 := F0 m 12 ls [.int (nI cps.length), .int (nI i)]) rfl ?_
        refine lv_icmp_ge (tgt := 57) hx hb d_CS_dirtyOfLeastBlock_12 (by decide) (fun c_5 => ?_) (fun c_5 => ?_)
        · exact absurd ((nI_leI (by omega) (by omega)).mp c_5) (by omega)
        · obtain ⟨c0, hc0⟩ := mp_get (xs := cps) (i := i) (by omega)
          have hm0 := List.mem_of_getElem? hc0
          have kc := hP1 c0 hm0
          have hst := fo_step hinv hc0
          refine lv_aload_n hx hb d_CS_dirtyOfLeastBlock_15 rfl (lv_at hl 2 rfl) ?_
          refine fh_get hx hb hG C_CS iG_CS hown hK hP hc 0 (by decide) gm63 rfl d_CS_dirtyOfLeastBlock_16 ?_
          refine lv_iload_n hx hb d_CS_dirtyOfLeastBlock_19 rfl (lv_at hl 0 rfl) ?_
          refine fh_callV (C := R_AL) (y := y_AL_get) (bytes := b_AL_get) (maxL := 2) (ret := (some (.object "java/lang/Object"))) (index := 20) (As := [.int (nI i)]) (rest := []) ⟨hx, hb, hml, hown, hG⟩ (c_AL_get l E h al arr (cps.map (·.1)) i c0.1 hL (mp_at hc0)) (cwV 1 hG (gV gm264 gm185 gm186 gm5 gm187) rfl rfl rfl ⟨rfl, hdy_AL_get⟩ ⟨Nat.le_of_ble_eq_true rfl, Nat.le_of_ble_eq_true rfl⟩) C_AL.1 ha hK hZ hP hS hA rfl hl.1 rfl (Nat.le_of_ble_eq_true rfl) d_CS_dirtyOfLeastBlock_20 ⟨Nat.le_of_ble_eq_true rfl, Nat.le_of_ble_eq_true rfl⟩ (fun r h1 H locs hq9 hP hS => ?_)
          obtain ⟨rfl, e9⟩ := hq9
          rw [e9] at hP
          refine W.eq (g2 := F0 m 23 ls [.ref c0.1]) rfl ?_
          refine va_castY (C := R_CP) hx hb hown (hG _ gm265) (fhK hZ _ (by simp [fhCast])) (fh_recv hK hP C_CP.1 kc) d_CS_dirtyOfLeastBlock_23 ?_
          refine lv_astore_n (lv' := [(3, .ref c0.1), (2, .int (nI i)), (1, .ref a.1), (0, .ref cs)]) hx hb d_CS_dirtyOfLeastBlock_26 rfl hl (by decide) rfl (fun ls hl => ?_)
          refine lv_aload_n hx hb d_CS_dirtyOfLeastBlock_27 rfl (lv_at hl 0 rfl) ?_
          refine fh_get hx hb hG C_CP iG_CP hown hK hP kc 2 (by decide) gm280 rfl d_CS_dirtyOfLeastBlock_28 ?_
          refine lv_if_eq (tgt := 51) hx hb d_CS_dirtyOfLeastBlock_31 (by decide) (fun c_6 => ?_) (fun c_6 => ?_)
          · skip
            refine lv_iinc (v := ((nI i)) + 1) (lv' := [(2, .int (((nI i)) + 1)), (3, .ref c0.1), (1, .ref a.1), (0, .ref cs)]) hx hb d_CS_dirtyOfLeastBlock_51 hl (k := 1) rfl rfl (by decide) rfl (fun ls hl => ?_)
            refine lv_goto (tgt := 4) hx hb d_CS_dirtyOfLeastBlock_54 (by decide) ?_
            exact ih (i + 1) (some a) _ _ _ (by omega) (hac) (by rw [hst]; unfold dlbF; rw [if_pos c_6]) (by rw [← nI_1]; exact lv_sub hl [0, 2, 3] rfl) hP hS
          · skip
            refine lv_aload_n hx hb d_CS_dirtyOfLeastBlock_34 rfl (lv_at hl 2 rfl) ?_
            refine lv_ifnull hx hb d_CS_dirtyOfLeastBlock_35 ?_
            refine lv_aload_n hx hb d_CS_dirtyOfLeastBlock_38 rfl (lv_at hl 0 rfl) ?_
            refine fh_get hx hb hG C_CP iG_CP hown hK hP kc 0 (by decide) gm273 rfl d_CS_dirtyOfLeastBlock_39 ?_
            refine lv_aload_n hx hb d_CS_dirtyOfLeastBlock_42 rfl (lv_at hl 2 rfl) ?_
            refine fh_get hx hb hG C_CP iG_CP hown hK hP ka 0 (by decide) gm273 rfl d_CS_dirtyOfLeastBlock_43 ?_
            refine lv_icmp_ge (tgt := 51) hx hb d_CS_dirtyOfLeastBlock_46 (by decide) (fun c_7 => ?_) (fun c_7 => ?_)
            · skip
              refine lv_iinc (v := ((nI i)) + 1) (lv' := [(2, .int (((nI i)) + 1)), (3, .ref c0.1), (1, .ref a.1), (0, .ref cs)]) hx hb d_CS_dirtyOfLeastBlock_51 hl (k := 1) rfl rfl (by decide) rfl (fun ls hl => ?_)
              refine lv_goto (tgt := 4) hx hb d_CS_dirtyOfLeastBlock_54 (by decide) ?_
              exact ih (i + 1) (some a) _ _ _ (by omega) (hac) (by rw [hst]; unfold dlbF; rw [if_neg c_6]; simp only []; rw [if_neg (fun z => (Int32.not_lt.mpr c_7) z)]) (by rw [← nI_1]; exact lv_sub hl [0, 2, 3] rfl) hP hS
            · skip
              refine lv_aload_n hx hb d_CS_dirtyOfLeastBlock_49 rfl (lv_at hl 0 rfl) ?_
              refine lv_astore_n (lv' := [(1, .ref c0.1), (3, .ref c0.1), (2, .int (nI i)), (0, .ref cs)]) hx hb d_CS_dirtyOfLeastBlock_50 rfl hl (by decide) rfl (fun ls hl => ?_)
              refine lv_iinc (v := ((nI i)) + 1) (lv' := [(2, .int (((nI i)) + 1)), (1, .ref c0.1), (3, .ref c0.1), (0, .ref cs)]) hx hb d_CS_dirtyOfLeastBlock_51 hl (k := 2) rfl rfl (by decide) rfl (fun ls hl => ?_)
              refine lv_goto (tgt := 4) hx hb d_CS_dirtyOfLeastBlock_54 (by decide) ?_
              exact ih (i + 1) (some c0) _ _ _ (by omega) (fun a ha => by cases ha; exact hm0) (by rw [hst]; unfold dlbF; rw [if_neg c_6]; simp only []; rw [if_pos (Int32.not_le.mp c_7)]) (by rw [← nI_1]; exact lv_sub hl [0, 1, 3] rfl) hP hS
  exact loop cps.length 0 none _ _ _ (by omega) (fun a ha => by cases ha) rfl (by rw [nI_0]; exact hl) hP hS
