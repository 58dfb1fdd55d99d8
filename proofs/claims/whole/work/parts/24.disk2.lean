/-! THE DISK: the choice; what goes to the media. -/
theorem chs_0 {r0 : mQ} {t : List mQ} {tm hd up wy : Int32} (h : r0.2.1 = 2 ∨ wy = 0 ∨ (wy = 4 ∧ ¬ tm - r0.2.2.2.1 < 100)) : chs (r0 :: t) tm hd up wy = (some 0, up) := by
  simp only [chs]; rw [if_pos h]
theorem chs_1 {r0 : mQ} {t : List mQ} {tm hd up wy : Int32} {k : Nat} (h : ¬ (r0.2.1 = 2 ∨ wy = 0 ∨ (wy = 4 ∧ ¬ tm - r0.2.2.2.1 < 100))) (hk : nearN (r0 :: t) (fA (sideP wy up) hd) (r0 :: t).length = some k) : chs (r0 :: t) tm hd up wy = (some k, up) := by
  simp only [chs]; rw [if_neg h, hk]
theorem chs_2 {r0 : mQ} {t : List mQ} {tm hd up wy : Int32} (h : ¬ (r0.2.1 = 2 ∨ wy = 0 ∨ (wy = 4 ∧ ¬ tm - r0.2.2.2.1 < 100))) (hk : nearN (r0 :: t) (fA (sideP wy up) hd) (r0 :: t).length = none) (hw : wy = 2) : chs (r0 :: t) tm hd up wy = (nearN (r0 :: t) (fA (sideP wy (if up = 0 then 1 else 0)) hd) (r0 :: t).length, if up = 0 then 1 else 0) := by
  simp only [chs]; rw [if_neg h, hk]; simp only []; rw [if_pos hw]
theorem chs_3 {r0 : mQ} {t : List mQ} {tm hd up wy : Int32} (h : ¬ (r0.2.1 = 2 ∨ wy = 0 ∨ (wy = 4 ∧ ¬ tm - r0.2.2.2.1 < 100))) (hk : nearN (r0 :: t) (fA (sideP wy up) hd) (r0 :: t).length = none) (hw : ¬ wy = 2) : chs (r0 :: t) tm hd up wy = (nearN (r0 :: t) (fA 3 hd) (r0 :: t).length, up) := by
  simp only [chs]; rw [if_neg h, hk]; simp only []; rw [if_neg hw]
theorem sideP_ok (wy up : Int32) : sideP wy up = 0 ∨ sideP wy up = 1 ∨ sideP wy up = 2 ∨ sideP wy up = 3 := by
  unfold sideP
  split
  · exact Or.inl rfl
  · split
    · split
      · exact Or.inr (Or.inr (Or.inl rfl))
      · exact Or.inr (Or.inl rfl)
    · exact Or.inr (Or.inl rfl)
def bOK (b : Int32) : Prop := ∃ n : Nat, n < 256 ∧ b = nI n
def updC (m : Nat → Int32) (c : tC) : Nat → Int32 := upd m c.2.1.toNatClampNeg c.2.2.1
def movT (mf : Nat → Int32) (cps : List tC) (k : Nat) : (Nat → Int32) × List tC := ((cps.take k).foldl updC mf, cps.drop k)
theorem mv_step {mf : Nat → Int32} {cps : List tC} {i : Nat} {c : tC} (h : cps[i]? = some c) : (cps.take (i + 1)).foldl updC mf = updC ((cps.take i).foldl updC mf) c := by
  rw [List.take_add_one, h, List.foldl_append]; rfl
theorem LI.upO {E : fh_E} {h h1 : fh_H} {al arr a i : Nat} {fs : List Value} {e : va_E} {xs : List Nat} (hL : LI E h al arr xs) (ha : h a = some (.inr (i, fs))) (hi : i ≠ 0) (hh : h1 = va_up h a (some e)) : LI E h1 al arr xs := by
  obtain ⟨md, cap, f, k1, k2, k3, k4, k5⟩ := hL
  subst hh
  refine ⟨md, cap, f, fh_up k1 (Ne.symm (fh_ne ha k1 hi)), k2, k3, k4, ?_⟩
  rcases k5 with k5 | ⟨k5, k6⟩
  · exact Or.inl k5
  · exact Or.inr ⟨k5, fh_up k6 (fh_neA k6 ha)⟩
theorem QLs.up5 {E : fh_E} {h h1 : fh_H} {qu al arr a : Nat} {fs : List Value} {e : va_E} {rqs : List tQ} (hQ : QLs E h qu al arr rqs) (ha : h a = some (.inr (5, fs))) (hh : h1 = va_up h a (some e)) : QLs E h1 qu al arr rqs := by
  refine ⟨by rw [hh]; exact fh_up hQ.1 (Ne.symm (fh_ne ha hQ.1 (by decide))), hQ.2.1.upO ha (by decide) hh, fun r hr => ?_⟩
  rw [hh]; exact fh_up (hQ.2.2 r hr) (Ne.symm (fh_ne ha (hQ.2.2 r hr) (by decide)))
theorem CLs.up5 {E : fh_E} {h h1 : fh_H} {cs al arr a : Nat} {fs : List Value} {e : va_E} {cps : List tC} (hQ : CLs E h cs al arr cps) (ha : h a = some (.inr (5, fs))) (hh : h1 = va_up h a (some e)) : CLs E h1 cs al arr cps := by
  refine ⟨by rw [hh]; exact fh_up hQ.1 (Ne.symm (fh_ne ha hQ.1 (by decide))), hQ.2.1.upO ha (by decide) hh, fun r hr => ?_⟩
  rw [hh]; exact fh_up (hQ.2.2 r hr) (Ne.symm (fh_ne ha (hQ.2.2 r hr) (by decide)))

set_option maxHeartbeats 4000000 in
set_option maxRecDepth 100000 in
theorem c_DK_chosenPlace_nil (l : Launch) (E : fh_E) (h : fh_H) (dk qu med cs : Nat) (sv0 : Value) (ul tm hd up wy sd il : Int32) (hd0 : h dk = some (.inr (5, [.ref qu, .ref med, .ref cs, sv0, .int ul, .int tm, .int hd, .int up, .int wy, .int sd, .int il]))) (qal qarr : Nat) (hQ : QLs E h qu qal qarr []) : fh_Met l y_DK_chosenPlace w_DK_chosenPlace ({ frames := 5, cells := 0, slots := 0, locals := 114 }) E [.ref dk] h (fun r h1 => r = some (.int (-1)) ∧ h1 = h) 0 0 := by
  refine fh_ofW (cc := b_DK_chosenPlace) (maxL := 3) (ret := (some .int)) (by decide) rfl (Nat.le_of_ble_eq_true rfl) ?_
  intro p e s m below meth c A ls hx hb hr hml hown hts hlocks hname hnoh hadm hA hK hZ hP hS hl
  have hG : ∀ w ∈ G, w.before _ s = true := fun w hw => hts w (List.mem_cons_of_mem _ hw)
  have hown : s.vm.findClass R_DK = some m.cls := hown
  have hl : lv_has ls 3 [(0, .ref dk)] := hl
  have kq := hQ.1
  refine lv_aload_n hx hb d_DK_chosenPlace_0 rfl (lv_at hl 0 rfl) ?_
  refine fh_get hx hb hG C_DK iG_DK hown hK hP hd0 0 (by decide) gm87 rfl d_DK_chosenPlace_1 ?_
  refine lv_iconst (v := 0) hx hb d_DK_chosenPlace_4 (by decide) ?_
  refine fh_callV (C := R_QU) (y := y_QU_at) (bytes := b_QU_at) (maxL := 2) (ret := (some (.object "BlockLayer$Request"))) (index := 134) (As := [.int 0]) (rest := []) ⟨hx, hb, hml, hown, hG⟩ (c_QU_at l E h qu qal qarr [] hQ (by decide) 0) (cwV 1 hG (gV gm180 gm181 gm182 gm7 gm183) rfl rfl rfl ⟨rfl, hdy_QU_at⟩ ⟨Nat.le_of_ble_eq_true rfl, Nat.le_of_ble_eq_true rfl⟩) C_QU.1 kq hK hZ hP hS hA rfl hl.1 rfl (Nat.le_of_ble_eq_true rfl) d_DK_chosenPlace_5 ⟨Nat.le_of_ble_eq_true rfl, Nat.le_of_ble_eq_true rfl⟩ (fun r h1 H locs hq9 hP hS => ?_)
  obtain ⟨rfl, e9⟩ := hq9
  rw [e9] at hP
  refine W.eq (g2 := F0 m 8 ls [va_rf ((atI ([] : List tQ) 0).map (·.1))]) rfl ?_
  refine W.eq (g2 := F0 m 8 ls [.null]) (rfl) ?_
  refine lv_astore_nN (lv' := [(1, .null), (0, .ref dk)]) hx hb d_DK_chosenPlace_8 rfl hl (by decide) rfl (fun ls hl => ?_)
  refine lv_aload_nN hx hb d_DK_chosenPlace_9 rfl (lv_at hl 0 rfl) ?_
  refine lv_ifnonnullN hx hb d_DK_chosenPlace_10 ?_
  refine lv_iconst (v := (-1)) hx hb d_DK_chosenPlace_13 (by decide) ?_
  exact fh_iret hx hb hr hlocks (Nat.le_of_ble_eq_true rfl) (Nat.le_of_ble_eq_true rfl) hP hS ⟨rfl, rfl⟩ d_DK_chosenPlace_14

set_option maxHeartbeats 4000000 in
set_option maxRecDepth 100000 in
theorem c_DK_chosenPlace (l : Launch) (E : fh_E) (h : fh_H) (dk qu med cs : Nat) (sv0 : Value) (ul tm hd up wy sd il : Int32) (hd0 : h dk = some (.inr (5, [.ref qu, .ref med, .ref cs, sv0, .int ul, .int tm, .int hd, .int up, .int wy, .int sd, .int il]))) (qal qarr : Nat) (r0 : tQ) (t : List tQ) (hQ : QLs E h qu qal qarr (r0 :: t)) (hq48 : (r0 :: t).length ≤ 48) : fh_Met l y_DK_chosenPlace w_DK_chosenPlace ({ frames := 5, cells := 0, slots := 0, locals := 114 }) E [.ref dk] h (fun r h1 => r = some (.int (pl (chs ((r0 :: t).map (·.2)) tm hd up wy).1)) ∧ h1 = va_up h dk (some (.inr (5, [.ref qu, .ref med, .ref cs, sv0, .int ul, .int tm, .int hd, .int (chs ((r0 :: t).map (·.2)) tm hd up wy).2, .int wy, .int sd, .int il])))) 0 0 := by
  refine fh_ofW (cc := b_DK_chosenPlace) (maxL := 3) (ret := (some .int)) (by decide) rfl (Nat.le_of_ble_eq_true rfl) ?_
  intro p e s m below meth c A ls hx hb hr hml hown hts hlocks hname hnoh hadm hA hK hZ hP hS hl
  have hG : ∀ w ∈ G, w.before _ s = true := fun w hw => hts w (List.mem_cons_of_mem _ hw)
  have hown : s.vm.findClass R_DK = some m.cls := hown
  have hl : lv_has ls 3 [(0, .ref dk)] := hl
  have kq := hQ.1
  have kr := hQ.2.2 r0 List.mem_cons_self
  have hlen : ((r0 :: t).map (·.2)).length = (r0 :: t).length := List.length_map _
  refine lv_aload_n hx hb d_DK_chosenPlace_0 rfl (lv_at hl 0 rfl) ?_
  refine fh_get hx hb hG C_DK iG_DK hown hK hP hd0 0 (by decide) gm87 rfl d_DK_chosenPlace_1 ?_
  refine lv_iconst (v := 0) hx hb d_DK_chosenPlace_4 (by decide) ?_
  refine fh_callV (C := R_QU) (y := y_QU_at) (bytes := b_QU_at) (maxL := 2) (ret := (some (.object "BlockLayer$Request"))) (index := 134) (As := [.int 0]) (rest := []) ⟨hx, hb, hml, hown, hG⟩ (c_QU_at l E h qu qal qarr (r0 :: t) hQ hq48 0) (cwV 1 hG (gV gm180 gm181 gm182 gm7 gm183) rfl rfl rfl ⟨rfl, hdy_QU_at⟩ ⟨Nat.le_of_ble_eq_true rfl, Nat.le_of_ble_eq_true rfl⟩) C_QU.1 kq hK hZ hP hS hA rfl hl.1 rfl (Nat.le_of_ble_eq_true rfl) d_DK_chosenPlace_5 ⟨Nat.le_of_ble_eq_true rfl, Nat.le_of_ble_eq_true rfl⟩ (fun r h1 H locs hq9 hP hS => ?_)
  obtain ⟨rfl, e9⟩ := hq9
  rw [e9] at hP
  refine W.eq (g2 := F0 m 8 ls [va_rf ((atI (r0 :: t) 0).map (·.1))]) rfl ?_
  refine W.eq (g2 := F0 m 8 ls [.ref r0.1]) (rfl) ?_
  refine lv_astore_n (lv' := [(1, .ref r0.1), (0, .ref dk)]) hx hb d_DK_chosenPlace_8 rfl hl (by decide) rfl (fun ls hl => ?_)
  refine lv_aload_n hx hb d_DK_chosenPlace_9 rfl (lv_at hl 0 rfl) ?_
  refine lv_ifnonnull (tgt := 15) hx hb d_DK_chosenPlace_10 (by decide) ?_
  refine lv_aload_n hx hb d_DK_chosenPlace_15 rfl (lv_at hl 0 rfl) ?_
  refine fh_get hx hb hG C_RQ iG_RQ hown hK hP kr 1 (by decide) gm556 rfl d_DK_chosenPlace_16 ?_
  refine lv_iconst (v := 2) hx hb d_DK_chosenPlace_19 (by decide) ?_
  refine lv_icmp_eq (tgt := 38) hx hb d_DK_chosenPlace_20 (by decide) (fun c_1 => ?_) (fun c_1 => ?_)
  · skip
    refine lv_iconst (v := 0) hx hb d_DK_chosenPlace_38 (by decide) ?_
    exact fh_iret hx hb hr hlocks (Nat.le_of_ble_eq_true rfl) (Nat.le_of_ble_eq_true rfl) hP hS ⟨by rw [List.map_cons, chs_0 (Or.inl c_1)]; exact congrArg (fun z => some (Value.int z)) nI_0.symm, by rw [List.map_cons, chs_0 (Or.inl c_1)]; exact (va_up_id hd0).symm⟩ d_DK_chosenPlace_39
  · skip
    refine lv_aload_n hx hb d_DK_chosenPlace_23 rfl (lv_at hl 1 rfl) ?_
    refine fh_get hx hb hG C_DK iG_DK hown hK hP hd0 8 (by decide) gm100 rfl d_DK_chosenPlace_24 ?_
    refine lv_if_eq (tgt := 38) hx hb d_DK_chosenPlace_27 (by decide) (fun c_2 => ?_) (fun c_2 => ?_)
    · skip
      refine lv_iconst (v := 0) hx hb d_DK_chosenPlace_38 (by decide) ?_
      exact fh_iret hx hb hr hlocks (Nat.le_of_ble_eq_true rfl) (Nat.le_of_ble_eq_true rfl) hP hS ⟨by rw [List.map_cons, chs_0 (Or.inr (Or.inl c_2))]; exact congrArg (fun z => some (Value.int z)) nI_0.symm, by rw [List.map_cons, chs_0 (Or.inr (Or.inl c_2))]; exact (va_up_id hd0).symm⟩ d_DK_chosenPlace_39
    · skip
      refine lv_aload_n hx hb d_DK_chosenPlace_30 rfl (lv_at hl 1 rfl) ?_
      refine lv_aload_n hx hb d_DK_chosenPlace_31 rfl (lv_at hl 0 rfl) ?_
      refine fh_callV (C := R_DK) (y := y_DK_isOldUnderPolicy) (bytes := b_DK_isOldUnderPolicy) (maxL := 2) (ret := (some .boolean)) (index := 137) (As := [.ref r0.1]) (rest := []) ⟨hx, hb, hml, hown, hG⟩ (c_DK_isOldUnderPolicy l E h dk qu med cs sv0 ul tm hd up wy sd il hd0 r0 kr) (cwV 1 hG (gV gm199 gm201 gs_DK_isOldUnderPolicy gm6 gm202) rfl rfl rfl ⟨rfl, hdy_DK_isOldUnderPolicy⟩ ⟨Nat.le_of_ble_eq_true rfl, Nat.le_of_ble_eq_true rfl⟩) C_DK.1 hd0 hK hZ hP hS hA rfl hl.1 rfl (Nat.le_of_ble_eq_true rfl) d_DK_chosenPlace_32 ⟨Nat.le_of_ble_eq_true rfl, Nat.le_of_ble_eq_true rfl⟩ (fun r h1 H locs hq9 hP hS => ?_)
      obtain ⟨rfl, e9⟩ := hq9
      rw [e9] at hP
      refine W.eq (g2 := F0 m 35 ls [.int (if wy = 4 ∧ ¬ tm - r0.2.2.2.2.1 < 100 then 1 else 0)]) rfl ?_
      refine lv_if_eq (tgt := 40) hx hb d_DK_chosenPlace_35 (by decide) (fun c_3 => ?_) (fun c_3 => ?_)
      · skip
        have hno : ¬ (r0.2.2.1 = 2 ∨ wy = 0 ∨ (wy = 4 ∧ ¬ tm - r0.2.2.2.2.1 < 100)) := by
          rintro (z | z | z)
          · exact c_1 z
          · exact c_2 z
          · rw [if_pos z] at c_3; exact absurd c_3 (by decide)
        refine lv_aload_n hx hb d_DK_chosenPlace_40 rfl (lv_at hl 1 rfl) ?_
        refine lv_aload_n hx hb d_DK_chosenPlace_41 rfl (lv_at hl 1 rfl) ?_
        refine fh_callV (C := R_DK) (y := y_DK_sideOfPolicy) (bytes := b_DK_sideOfPolicy) (maxL := 1) (ret := (some .int)) (index := 141) (As := []) (rest := [.ref dk]) ⟨hx, hb, hml, hown, hG⟩ (c_DK_sideOfPolicy l E h dk qu med cs sv0 ul tm hd up wy sd il hd0) (cwV 0 hG (gV gm203 gm205 gs_DK_sideOfPolicy gm6 gm206) rfl rfl rfl ⟨rfl, hdy_DK_sideOfPolicy⟩ ⟨Nat.le_of_ble_eq_true rfl, Nat.le_of_ble_eq_true rfl⟩) C_DK.1 hd0 hK hZ hP hS hA rfl hl.1 rfl (Nat.le_of_ble_eq_true rfl) d_DK_chosenPlace_42 ⟨Nat.le_of_ble_eq_true rfl, Nat.le_of_ble_eq_true rfl⟩ (fun r h1 H locs hq9 hP hS => ?_)
        obtain ⟨rfl, e9⟩ := hq9
        rw [e9] at hP
        refine W.eq (g2 := F0 m 45 ls [.int (sideP wy up), .ref dk]) rfl ?_
        refine fh_callV (C := R_DK) (y := y_DK_nearestPlace) (bytes := b_DK_nearestPlace) (maxL := 7) (ret := (some .int)) (index := 144) (As := [.int (sideP wy up)]) (rest := []) ⟨hx, hb, hml, hown, hG⟩ (c_DK_nearestPlace l E h dk qu med cs sv0 ul tm hd up wy sd il hd0 qal qarr (r0 :: t) hQ hq48 (sideP wy up) (sideP_ok wy up)) (cwV 1 hG (gV gm207 gm209 gs_DK_nearestPlace gm6 gm210) rfl rfl rfl ⟨rfl, hdy_DK_nearestPlace⟩ ⟨Nat.le_of_ble_eq_true rfl, Nat.le_of_ble_eq_true rfl⟩) C_DK.1 hd0 hK hZ hP hS hA rfl hl.1 rfl (Nat.le_of_ble_eq_true rfl) d_DK_chosenPlace_45 ⟨Nat.le_of_ble_eq_true rfl, Nat.le_of_ble_eq_true rfl⟩ (fun r h1 H locs hq9 hP hS => ?_)
        obtain ⟨rfl, e9⟩ := hq9
        rw [e9] at hP
        refine W.eq (g2 := F0 m 48 ls [.int (pl (nearN ((r0 :: t).map (·.2)) (fA (sideP wy up) hd) (r0 :: t).length))]) rfl ?_
        cases hnr : nearN ((r0 :: t).map (·.2)) (fA (sideP wy up) hd) (r0 :: t).length with
        | some k =>
          have hk := nearN_lt _ _ _ _ hnr
          rw [← hlen] at hnr
          refine W.eq (g2 := F0 m 48 ls [.int (nI k)]) (rfl) ?_
          refine lv_istore_n (lv' := [(2, .int (nI k)), (1, .ref r0.1), (0, .ref dk)]) hx hb d_DK_chosenPlace_48 rfl hl (by decide) rfl (fun ls hl => ?_)
          refine lv_iload_n hx hb d_DK_chosenPlace_49 rfl (lv_at hl 0 rfl) ?_
          refine lv_iconst (v := (-1)) hx hb d_DK_chosenPlace_50 (by decide) ?_
          refine lv_icmp_eq (tgt := 56) hx hb d_DK_chosenPlace_51 (by decide) (fun c_4 => ?_) (fun c_4 => ?_)
          · skip
            exact absurd c_4 (pl_ne (by omega))
          · skip
            refine lv_iload_n hx hb d_DK_chosenPlace_54 rfl (lv_at hl 0 rfl) ?_
            exact fh_iret hx hb hr hlocks (Nat.le_of_ble_eq_true rfl) (Nat.le_of_ble_eq_true rfl) hP hS ⟨by rw [List.map_cons, chs_1 hno hnr]; rfl, by rw [List.map_cons, chs_1 hno hnr]; exact (va_up_id hd0).symm⟩ d_DK_chosenPlace_55
        | none =>
          rw [← hlen] at hnr
          refine W.eq (g2 := F0 m 48 ls [.int (-1)]) (rfl) ?_
          refine lv_istore_n (lv' := [(2, .int (-1)), (1, .ref r0.1), (0, .ref dk)]) hx hb d_DK_chosenPlace_48 rfl hl (by decide) rfl (fun ls hl => ?_)
          refine lv_iload_n hx hb d_DK_chosenPlace_49 rfl (lv_at hl 0 rfl) ?_
          refine lv_iconst (v := (-1)) hx hb d_DK_chosenPlace_50 (by decide) ?_
          refine lv_icmp_eq (tgt := 56) hx hb d_DK_chosenPlace_51 (by decide) (fun c_5 => ?_) (fun c_5 => ?_)
          · skip
            refine lv_aload_n hx hb d_DK_chosenPlace_56 rfl (lv_at hl 2 rfl) ?_
            refine fh_get hx hb hG C_DK iG_DK hown hK hP hd0 8 (by decide) gm100 rfl d_DK_chosenPlace_57 ?_
            refine lv_iconst (v := 2) hx hb d_DK_chosenPlace_60 (by decide) ?_
            refine lv_icmp_ne (tgt := 89) hx hb d_DK_chosenPlace_61 (by decide) (fun c_6 => ?_) (fun c_6 => ?_)
            · skip
              refine lv_aload_n hx hb d_DK_chosenPlace_89 rfl (lv_at hl 2 rfl) ?_
              refine lv_iconst (v := 3) hx hb d_DK_chosenPlace_90 (by decide) ?_
              refine fh_callV (C := R_DK) (y := y_DK_nearestPlace) (bytes := b_DK_nearestPlace) (maxL := 7) (ret := (some .int)) (index := 144) (As := [.int 3]) (rest := []) ⟨hx, hb, hml, hown, hG⟩ (c_DK_nearestPlace l E h dk qu med cs sv0 ul tm hd up wy sd il hd0 qal qarr (r0 :: t) hQ hq48 3 (by decide)) (cwV 1 hG (gV gm207 gm209 gs_DK_nearestPlace gm6 gm210) rfl rfl rfl ⟨rfl, hdy_DK_nearestPlace⟩ ⟨Nat.le_of_ble_eq_true rfl, Nat.le_of_ble_eq_true rfl⟩) C_DK.1 hd0 hK hZ hP hS hA rfl hl.1 rfl (Nat.le_of_ble_eq_true rfl) d_DK_chosenPlace_91 ⟨Nat.le_of_ble_eq_true rfl, Nat.le_of_ble_eq_true rfl⟩ (fun r h1 H locs hq9 hP hS => ?_)
              obtain ⟨rfl, e9⟩ := hq9
              rw [e9] at hP
              refine W.eq (g2 := F0 m 94 ls [.int (pl (nearN ((r0 :: t).map (·.2)) (fA 3 hd) (r0 :: t).length))]) rfl ?_
              exact fh_iret hx hb hr hlocks (Nat.le_of_ble_eq_true rfl) (Nat.le_of_ble_eq_true rfl) hP hS ⟨by rw [List.map_cons, chs_3 hno hnr c_6, ← hlen]; rfl, by rw [List.map_cons, chs_3 hno hnr c_6]; exact (va_up_id hd0).symm⟩ d_DK_chosenPlace_94
            · skip
              refine lv_aload_n hx hb d_DK_chosenPlace_64 rfl (lv_at hl 2 rfl) ?_
              refine lv_aload_n hx hb d_DK_chosenPlace_65 rfl (lv_at hl 2 rfl) ?_
              refine fh_get hx hb hG C_DK iG_DK hown hK hP hd0 7 (by decide) gm99 rfl d_DK_chosenPlace_66 ?_
              refine lv_if_ne (tgt := 76) hx hb d_DK_chosenPlace_69 (by decide) (fun c_7 => ?_) (fun c_7 => ?_)
              · skip
                refine lv_iconst (v := 0) hx hb d_DK_chosenPlace_76 (by decide) ?_
                refine fh_put hx hb hG C_DK iG_DK hown hK hP hS hd0 7 (by decide) gm99 rfl (v := .int 0) rfl rfl (Nat.le_of_ble_eq_true rfl) d_DK_chosenPlace_77 (fun H locs hP hS => ?_)
                obtain ⟨h_8, eh_9⟩ : ∃ z : fh_H, z = va_up h dk (some (.inr (5, [.ref qu, .ref med, .ref cs, sv0, .int ul, .int tm, .int hd, .int 0, .int wy, .int sd, .int il]))) := ⟨_, rfl⟩
                have hP : fh_P E.1 vwCl A h_8 H := by rw [eh_9]; exact hP
                have k_10 : h_8 qu = some (.inr (4, [.ref qal])) := by rw [eh_9]; exact fh_up kq (fh_ne kq hd0 (by decide))
                have k_11 : h_8 r0.1 = some (.inr (3, [.int r0.2.1, .int r0.2.2.1, .int r0.2.2.2.1, .int r0.2.2.2.2.1, .int r0.2.2.2.2.2, .int 0])) := by rw [eh_9]; exact fh_up kr (fh_ne kr hd0 (by decide))
                have k_12 : h_8 dk = some (.inr (5, [.ref qu, .ref med, .ref cs, sv0, .int ul, .int tm, .int hd, .int 0, .int wy, .int sd, .int il])) := by rw [eh_9]; exact va_up_self _ _ _
                refine lv_aload_n hx hb d_DK_chosenPlace_80 rfl (lv_at hl 2 rfl) ?_
                refine lv_aload_n hx hb d_DK_chosenPlace_81 rfl (lv_at hl 2 rfl) ?_
                have hQ2 : QLs E h_8 qu qal qarr (r0 :: t) := hQ.up5 hd0 eh_9
                refine fh_callV (C := R_DK) (y := y_DK_sideOfPolicy) (bytes := b_DK_sideOfPolicy) (maxL := 1) (ret := (some .int)) (index := 141) (As := []) (rest := [.ref dk]) ⟨hx, hb, hml, hown, hG⟩ (c_DK_sideOfPolicy l E h_8 dk qu med cs sv0 ul tm hd 0 wy sd il k_12) (cwV 0 hG (gV gm203 gm205 gs_DK_sideOfPolicy gm6 gm206) rfl rfl rfl ⟨rfl, hdy_DK_sideOfPolicy⟩ ⟨Nat.le_of_ble_eq_true rfl, Nat.le_of_ble_eq_true rfl⟩) C_DK.1 k_12 hK hZ hP hS hA rfl hl.1 rfl (Nat.le_of_ble_eq_true rfl) d_DK_chosenPlace_82 ⟨Nat.le_of_ble_eq_true rfl, Nat.le_of_ble_eq_true rfl⟩ (fun r h1 H locs hq9 hP hS => ?_)
                obtain ⟨rfl, e9⟩ := hq9
                rw [e9] at hP
                refine W.eq (g2 := F0 m 85 ls [.int (sideP wy 0), .ref dk]) rfl ?_
                refine fh_callV (C := R_DK) (y := y_DK_nearestPlace) (bytes := b_DK_nearestPlace) (maxL := 7) (ret := (some .int)) (index := 144) (As := [.int (sideP wy 0)]) (rest := []) ⟨hx, hb, hml, hown, hG⟩ (c_DK_nearestPlace l E h_8 dk qu med cs sv0 ul tm hd 0 wy sd il k_12 qal qarr (r0 :: t) hQ2 hq48 (sideP wy 0) (sideP_ok wy 0)) (cwV 1 hG (gV gm207 gm209 gs_DK_nearestPlace gm6 gm210) rfl rfl rfl ⟨rfl, hdy_DK_nearestPlace⟩ ⟨Nat.le_of_ble_eq_true rfl, Nat.le_of_ble_eq_true rfl⟩) C_DK.1 k_12 hK hZ hP hS hA rfl hl.1 rfl (Nat.le_of_ble_eq_true rfl) d_DK_chosenPlace_85 ⟨Nat.le_of_ble_eq_true rfl, Nat.le_of_ble_eq_true rfl⟩ (fun r h1 H locs hq9 hP hS => ?_)
                obtain ⟨rfl, e9⟩ := hq9
                rw [e9] at hP
                refine W.eq (g2 := F0 m 88 ls [.int (pl (nearN ((r0 :: t).map (·.2)) (fA (sideP wy 0) hd) (r0 :: t).length))]) rfl ?_
                exact fh_iret hx hb hr hlocks (Nat.le_of_ble_eq_true rfl) (Nat.le_of_ble_eq_true rfl) hP hS ⟨by rw [List.map_cons, chs_2 hno hnr c_6, if_neg c_7, ← hlen]; rfl, by rw [eh_9, List.map_cons, chs_2 hno hnr c_6, if_neg c_7]⟩ d_DK_chosenPlace_88
              · skip
                refine lv_iconst (v := 1) hx hb d_DK_chosenPlace_72 (by decide) ?_
                refine lv_goto (tgt := 77) hx hb d_DK_chosenPlace_73 (by decide) ?_
                refine fh_put hx hb hG C_DK iG_DK hown hK hP hS hd0 7 (by decide) gm99 rfl (v := .int 1) rfl rfl (Nat.le_of_ble_eq_true rfl) d_DK_chosenPlace_77 (fun H locs hP hS => ?_)
                obtain ⟨h_13, eh_14⟩ : ∃ z : fh_H, z = va_up h dk (some (.inr (5, [.ref qu, .ref med, .ref cs, sv0, .int ul, .int tm, .int hd, .int 1, .int wy, .int sd, .int il]))) := ⟨_, rfl⟩
                have hP : fh_P E.1 vwCl A h_13 H := by rw [eh_14]; exact hP
                have k_15 : h_13 qu = some (.inr (4, [.ref qal])) := by rw [eh_14]; exact fh_up kq (fh_ne kq hd0 (by decide))
                have k_16 : h_13 r0.1 = some (.inr (3, [.int r0.2.1, .int r0.2.2.1, .int r0.2.2.2.1, .int r0.2.2.2.2.1, .int r0.2.2.2.2.2, .int 0])) := by rw [eh_14]; exact fh_up kr (fh_ne kr hd0 (by decide))
                have k_17 : h_13 dk = some (.inr (5, [.ref qu, .ref med, .ref cs, sv0, .int ul, .int tm, .int hd, .int 1, .int wy, .int sd, .int il])) := by rw [eh_14]; exact va_up_self _ _ _
                refine lv_aload_n hx hb d_DK_chosenPlace_80 rfl (lv_at hl 2 rfl) ?_
                refine lv_aload_n hx hb d_DK_chosenPlace_81 rfl (lv_at hl 2 rfl) ?_
                have hQ2 : QLs E h_13 qu qal qarr (r0 :: t) := hQ.up5 hd0 eh_14
                refine fh_callV (C := R_DK) (y := y_DK_sideOfPolicy) (bytes := b_DK_sideOfPolicy) (maxL := 1) (ret := (some .int)) (index := 141) (As := []) (rest := [.ref dk]) ⟨hx, hb, hml, hown, hG⟩ (c_DK_sideOfPolicy l E h_13 dk qu med cs sv0 ul tm hd 1 wy sd il k_17) (cwV 0 hG (gV gm203 gm205 gs_DK_sideOfPolicy gm6 gm206) rfl rfl rfl ⟨rfl, hdy_DK_sideOfPolicy⟩ ⟨Nat.le_of_ble_eq_true rfl, Nat.le_of_ble_eq_true rfl⟩) C_DK.1 k_17 hK hZ hP hS hA rfl hl.1 rfl (Nat.le_of_ble_eq_true rfl) d_DK_chosenPlace_82 ⟨Nat.le_of_ble_eq_true rfl, Nat.le_of_ble_eq_true rfl⟩ (fun r h1 H locs hq9 hP hS => ?_)
                obtain ⟨rfl, e9⟩ := hq9
                rw [e9] at hP
                refine W.eq (g2 := F0 m 85 ls [.int (sideP wy 1), .ref dk]) rfl ?_
                refine fh_callV (C := R_DK) (y := y_DK_nearestPlace) (bytes := b_DK_nearestPlace) (maxL := 7) (ret := (some .int)) (index := 144) (As := [.int (sideP wy 1)]) (rest := []) ⟨hx, hb, hml, hown, hG⟩ (c_DK_nearestPlace l E h_13 dk qu med cs sv0 ul tm hd 1 wy sd il k_17 qal qarr (r0 :: t) hQ2 hq48 (sideP wy 1) (sideP_ok wy 1)) (cwV 1 hG (gV gm207 gm209 gs_DK_nearestPlace gm6 gm210) rfl rfl rfl ⟨rfl, hdy_DK_nearestPlace⟩ ⟨Nat.le_of_ble_eq_true rfl, Nat.le_of_ble_eq_true rfl⟩) C_DK.1 k_17 hK hZ hP hS hA rfl hl.1 rfl (Nat.le_of_ble_eq_true rfl) d_DK_chosenPlace_85 ⟨Nat.le_of_ble_eq_true rfl, Nat.le_of_ble_eq_true rfl⟩ (fun r h1 H locs hq9 hP hS => ?_)
                obtain ⟨rfl, e9⟩ := hq9
                rw [e9] at hP
                refine W.eq (g2 := F0 m 88 ls [.int (pl (nearN ((r0 :: t).map (·.2)) (fA (sideP wy 1) hd) (r0 :: t).length))]) rfl ?_
                exact fh_iret hx hb hr hlocks (Nat.le_of_ble_eq_true rfl) (Nat.le_of_ble_eq_true rfl) hP hS ⟨by rw [List.map_cons, chs_2 hno hnr c_6, if_pos c_7, ← hlen]; rfl, by rw [eh_14, List.map_cons, chs_2 hno hnr c_6, if_pos c_7]⟩ d_DK_chosenPlace_88
          · skip
            exact absurd rfl c_5
      · skip
        have hol : wy = 4 ∧ ¬ tm - r0.2.2.2.2.1 < 100 := Decidable.byContradiction (fun z => c_3 (by rw [if_neg z]))
        refine lv_iconst (v := 0) hx hb d_DK_chosenPlace_38 (by decide) ?_
        exact fh_iret hx hb hr hlocks (Nat.le_of_ble_eq_true rfl) (Nat.le_of_ble_eq_true rfl) hP hS ⟨by rw [List.map_cons, chs_0 (Or.inr (Or.inr hol))]; exact congrArg (fun z => some (Value.int z)) nI_0.symm, by rw [List.map_cons, chs_0 (Or.inr (Or.inr hol))]; exact (va_up_id hd0).symm⟩ d_DK_chosenPlace_39

set_option maxHeartbeats 4000000 in
set_option maxRecDepth 100000 in
theorem c_DK_moveToMedia (l : Launch) (E : fh_E) (h : fh_H) (dk qu med cs : Nat) (sv0 : Value) (ul tm hd up wy sd il : Int32) (hd0 : h dk = some (.inr (5, [.ref qu, .ref med, .ref cs, sv0, .int ul, .int tm, .int hd, .int up, .int wy, .int sd, .int il]))) (mf : Nat → Int32) (hm : h med = some (.inl (fh_cI E, 256, .inl mf))) (cal carr : Nat) (cps : List tC) (hC : CLs E h cs cal carr cps) (h48 : cps.length ≤ 48) (hB : ∀ c ∈ cps, bOK c.2.1) (hmc : med ≠ carr) (v : Int32) (k : Nat) (hk : k ≤ cps.length) (hv : v = nI k ∨ (k = 0 ∧ v ≤ 0)) : fh_Met l y_DK_moveToMedia w_DK_moveToMedia ({ frames := 4, cells := 0, slots := 0, locals := 126 }) E [.ref dk, .int v] h (fun r h1 => r = none ∧ CLs E h1 cs cal carr (movT mf cps k).2 ∧ h1 med = some (.inl (fh_cI E, 256, .inl (movT mf cps k).1)) ∧ ∀ b, b ≠ cal → b ≠ carr → b ≠ med → h1 b = h b) 0 0 := by
  refine fh_ofW (cc := b_DK_moveToMedia) (maxL := 4) (ret := none) (by decide) rfl (Nat.le_of_ble_eq_true rfl) ?_
  intro p e s m below meth c A ls hx hb hr hml hown hts hlocks hname hnoh hadm hA hK hZ hP hS hl
  have hG : ∀ w ∈ G, w.before _ s = true := fun w hw => hts w (List.mem_cons_of_mem _ hw)
  have hown : s.vm.findClass R_DK = some m.cls := hown
  have hl : lv_has ls 4 [(0, .ref dk), (1, .int v)] := hl
  refine lv_iconst (v := 0) hx hb d_DK_moveToMedia_0 (by decide) ?_
  refine lv_istore_n (lv' := [(2, .int 0), (0, .ref dk), (1, .int v)]) hx hb d_DK_moveToMedia_1 rfl hl (by decide) rfl (fun ls hl => ?_)
  obtain ⟨mdc, hal⟩ := hC.2.1.al
  have hia := hC.2.1.isArrZ hZ hP
  have loop : ∀ (n i : Nat) (hw : fh_H) (H : Heap) (locs : List Loc) (ls : Array Slot), i + n = k → CLs E hw cs cal carr (cps.drop i) → hw med = some (.inl (fh_cI E, 256, .inl ((cps.take i).foldl updC mf))) → (∀ b, b ≠ cal → b ≠ carr → b ≠ med → hw b = h b) → lv_has ls 4 [(2, .int (nI i)), (0, .ref dk), (1, .int v)] → fh_P E.1 vwCl A hw H → va_S A s.heap H locs → W p l e ({ frames := 4, cells := 0, slots := 0, locals := 126 }) s m ([.ref dk, .int v] : List Value).toArray below meth c H locs 0 0 (MQ below (fh_Post E (fun r h1 => r = none ∧ CLs E h1 cs cal carr (movT mf cps k).2 ∧ h1 med = some (.inl (fh_cI E, 256, .inl (movT mf cps k).1)) ∧ ∀ b, b ≠ cal → b ≠ carr → b ≠ med → h1 b = h b) A) ([.ref dk, .int v] : List Value).toArray s 0 0 A) (F0 m 2 ls []) := by
    intro n
    induction n with
    | zero =>
      intro i hw H locs ls hin k1 k2 k3 hl hP hS
      refine lv_iload_n hx hb d_DK_moveToMedia_2 rfl (lv_at hl 0 rfl) ?_
      refine lv_iload_n hx hb d_DK_moveToMedia_3 rfl (lv_at hl 2 rfl) ?_
      refine lv_icmp_ge (tgt := 38) hx hb d_DK_moveToMedia_4 (by decide) (fun c_1 => ?_) (fun c_1 => ?_)
      · skip
        have e0 : i = k := by omega
        subst e0
        exact fh_vret hx hb hr hlocks (Nat.le_of_ble_eq_true rfl) (Nat.le_of_ble_eq_true rfl) hP hS ⟨rfl, k1, k2, k3⟩ d_DK_moveToMedia_38
      · have hz : v ≤ nI i := by
          rcases hv with z | z
          · rw [z, show i = k by omega]; exact nI_le (Nat.le_refl _) (by omega)
          · rw [show i = 0 by omega, nI_0]; exact z.2
        exact absurd hz c_1
    | succ n ih =>
      intro i hw H locs ls hin k1 k2 k3 hl hP hS
      refine lv_iload_n hx hb d_DK_moveToMedia_2 rfl (lv_at hl 0 rfl) ?_
      refine lv_iload_n hx hb d_DK_moveToMedia_3 rfl (lv_at hl 2 rfl) ?_
      refine lv_icmp_ge (tgt := 38) hx hb d_DK_moveToMedia_4 (by decide) (fun c_2 => ?_) (fun c_2 => ?_)
      · have hz : ¬ v ≤ nI i := by
          rcases hv with z | z
          · rw [z]; exact nI_ge (by omega) (by omega)
          · omega
        exact absurd c_2 hz
      · obtain ⟨c0, hc0⟩ := mp_get (xs := cps) (i := i) (by omega)
        have hm0 := List.mem_of_getElem? hc0
        rw [dr_cons hc0] at k1
        obtain ⟨nb, hnb, hbe⟩ := hB c0 hm0
        obtain ⟨mdw, hawl⟩ := k1.2.1.al
        have hiw := k1.2.1.isArrZ hZ hP
        have kd : hw dk = some (.inr (5, [.ref qu, .ref med, .ref cs, sv0, .int ul, .int tm, .int hd, .int up, .int wy, .int sd, .int il])) := (k3 dk (fh_ne hd0 hal (by decide)) (fun z => by obtain ⟨x, hx9⟩ := hia ⟨_, by rw [← z]; exact hd0⟩; rw [← z, hd0] at hx9; cases hx9) (Ne.symm (fh_neA hm hd0))).trans hd0
        have kcs := k1.1
        refine lv_aload_n hx hb d_DK_moveToMedia_7 rfl (lv_at hl 1 rfl) ?_
        refine fh_get hx hb hG C_DK iG_DK hown hK hP kd 2 (by decide) gm90 rfl d_DK_moveToMedia_8 ?_
        refine fh_callV (C := R_CS) (y := y_CS_takeFirst) (bytes := b_CS_takeFirst) (maxL := 1) (ret := (some (.object "BlockLayer$Copy"))) (index := 129) (As := []) (rest := []) ⟨hx, hb, hml, hown, hG⟩ (c_CS_takeFirst_cons l E hw cs cal carr c0 (cps.drop (i + 1)) k1 (by rw [List.length_drop]; omega)) (cwV 0 hG (gV gm351 gm352 gm353 gm2 gm354) rfl rfl rfl ⟨rfl, hdy_CS_takeFirst⟩ ⟨Nat.le_of_ble_eq_true rfl, Nat.le_of_ble_eq_true rfl⟩) C_CS.1 kcs hK hZ hP hS hA rfl hl.1 rfl (Nat.le_of_ble_eq_true rfl) d_DK_moveToMedia_11 ⟨Nat.le_of_ble_eq_true rfl, Nat.le_of_ble_eq_true rfl⟩ (fun r h1 H locs hq9 hP hS => ?_)
        obtain ⟨rfl, g1, g2⟩ := hq9
        refine W.eq (g2 := F0 m 14 ls [.ref c0.1]) rfl ?_
        have kd1 := fr_obj g2 hawl hiw kd (by decide)
        have kc1 := fr_obj g2 hawl hiw (k1.2.2 c0 List.mem_cons_self) (by decide)
        have nm1 : med ≠ cal := fh_neA k2 hawl
        have nm2 : med ≠ carr := hmc
        have km1 : h1 med = some (.inl (fh_cI E, 256, .inl ((cps.take i).foldl updC mf))) := (g2 med nm1 nm2).trans k2
        refine lv_astore_n (lv' := [(3, .ref c0.1), (2, .int (nI i)), (0, .ref dk), (1, .int v)]) hx hb d_DK_moveToMedia_14 rfl hl (by decide) rfl (fun ls hl => ?_)
        refine lv_aload_n hx hb d_DK_moveToMedia_15 rfl (lv_at hl 0 rfl) ?_
        refine lv_ifnull hx hb d_DK_moveToMedia_16 ?_
        refine lv_aload_n hx hb d_DK_moveToMedia_19 rfl (lv_at hl 2 rfl) ?_
        refine fh_get hx hb hG C_DK iG_DK hown hK hP kd1 1 (by decide) gm89 rfl d_DK_moveToMedia_20 ?_
        refine lv_aload_n hx hb d_DK_moveToMedia_23 rfl (lv_at hl 0 rfl) ?_
        refine fh_get hx hb hG C_CP iG_CP hown hK hP kc1 0 (by decide) gm275 rfl d_DK_moveToMedia_24 ?_
        refine lv_aload_n hx hb d_DK_moveToMedia_27 rfl (lv_at hl 0 rfl) ?_
        refine fh_get hx hb hG C_CP iG_CP hown hK hP kc1 1 (by decide) gm278 rfl d_DK_moveToMedia_28 ?_
        refine fh_iast hx hb hK hP hS 0 km1 rfl (by rw [hbe]; exact vp_in_nI hnb (by decide)) d_DK_moveToMedia_31 (fun H locs hP hS => ?_)
        refine lv_iinc (v := ((nI i)) + 1) (lv' := [(2, .int (((nI i)) + 1)), (3, .ref c0.1), (0, .ref dk), (1, .int v)]) hx hb d_DK_moveToMedia_32 hl (k := 1) rfl rfl (by decide) rfl (fun ls hl => ?_)
        refine lv_goto (tgt := 2) hx hb d_DK_moveToMedia_35 (by decide) ?_
        obtain ⟨md3, ha3⟩ := g1.2.1.al
        refine ih (i + 1) _ _ _ _ (by omega) ⟨(va_up_ne _ _ (Ne.symm (fh_neA km1 g1.1))).trans g1.1, g1.2.1.frame (va_up_ne _ _ (Ne.symm nm1)) (fun _ => va_up_ne _ _ (Ne.symm nm2)), fun d hd => (va_up_ne _ _ (Ne.symm (fh_neA km1 (g1.2.2 d hd)))).trans (g1.2.2 d hd)⟩ (by rw [mv_step hc0]; exact va_up_self _ _ _) (fun b z1 z2 z3 => (va_up_ne _ _ z3).trans ((g2 b z1 z2).trans (k3 b z1 z2 z3))) (by rw [← nI_1]; exact lv_sub hl [0, 2, 3] rfl) hP hS
  exact loop k 0 h _ _ _ (by omega) hC hm (fun _ _ _ _ => rfl) (by rw [nI_0]; exact hl) hP hS
