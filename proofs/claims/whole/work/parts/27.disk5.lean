/-! THE DISK: time passes until an end. -/
/-- the disk's numbers change, nothing else -/
theorem DKs.up {E : fh_E} {h h1 : fh_H} {dk qu qal qarr med cs cal carr : Nat} {rqs : List tQ} {mf : Nat → Int32} {cps : List tC} {sv sv2 : Option tQ} {ul tm hd up wy sd il ul2 tm2 hd2 up2 wy2 sd2 il2 : Int32} (hD : DKs E h dk qu qal qarr med cs cal carr rqs mf cps sv ul tm hd up wy sd il) (hed : h (fh_ed E) = none) (hs : ∀ r, sv2 = some r → sv = some r) (hh : h1 = va_up h dk (some (.inr (5, [.ref qu, .ref med, .ref cs, va_rf (sv2.map (·.1)), .int ul2, .int tm2, .int hd2, .int up2, .int wy2, .int sd2, .int il2])))) : DKs E h1 dk qu qal qarr med cs cal carr rqs mf cps sv2 ul2 tm2 hd2 up2 wy2 sd2 il2 := by
  obtain ⟨hd0, hQ, hm, hC, hsv, hnd, hqc, hqa⟩ := hD
  refine ⟨by rw [hh]; exact va_up_self _ _ _, hQ.up5 hd0 hh, by rw [hh]; exact fh_up hm (fh_neA hm hd0), hC.up5 hd0 hh, fun r z => ?_, hnd, hqc, fun x hx9 => ?_⟩
  · have k := hsv r (hs r z)
    exact ⟨by unfold R1; rw [hh]; exact fh_up k.1 (fh_ne k.1 hd0 (by decide)), k.2⟩
  · by_cases c : qarr = dk
    · exact absurd c.symm (hQ.2.1.neO hed hd0)
    · rw [hh, va_up_ne _ _ c] at hx9
      exact hqa x hx9
theorem mn_lt {n u : Nat} (h : n < u) (hu : u < 2 ^ 31) : (if nI u < nI n then nI u else nI n) = nI n := if_neg (nI_nlt (by omega) hu)
theorem mn_ge {n u : Nat} (h : u ≤ n) (hn : n < 2 ^ 31) : (if nI u < nI n then nI u else nI n) = nI u := by
  by_cases c : u < n
  · exact if_pos (nI_lt c hn)
  · rw [if_neg (nI_nlt (by omega) (by omega)), show n = u by omega]
def Nx (rqs : List tQ) (cps : List tC) (sv : Option tQ) (ul tm hd up wy : Int32) (rqs' : List tQ) (r9 : tQ) (u : Nat) (hd' up' : Int32) : Prop :=
  (sv = some r9 ∧ rqs' = rqs ∧ ul = nI u ∧ hd' = hd ∧ up' = up) ∨ (sv = none ∧ ∃ k, (chs (rqs.map (·.2)) tm hd up wy).1 = some k ∧ rqs[k]? = some r9 ∧ rqs' = rqs.eraseIdx k ∧ begU r9.2 cps.length hd = nI u ∧ hd' = begH r9.2 hd ∧ up' = (chs (rqs.map (·.2)) tm hd up wy).2)
theorem Fr.mono {h h1 : fh_H} {X Y : Nat → Prop} (F : Fr h h1 X) (hXY : ∀ b, X b → Y b) : Fr h h1 Y := fun b e hb n => F b e hb (fun z => n (hXY b z))
theorem Fr.trans {h h1 h2 : fh_H} {X Y Z : Nat → Prop} (F : Fr h h1 X) (F2 : Fr h1 h2 Y) (hX : ∀ b, X b → Z b) (hY : ∀ b, (∃ e, h b = some e) → Y b → Z b) : Fr h h2 Z := fun b e hb n => F2 b e (F b e hb (fun z => n (hX b z))) (fun z => n (hY b ⟨e, hb⟩ z))
theorem xn_e {b dk cal carr med r qal qarr : Nat} (z : b = dk ∨ b = cal ∨ b = carr ∨ b = med ∨ b = r) : b = dk ∨ b = cal ∨ b = carr ∨ b = med ∨ b = r ∨ b = qal ∨ b = qarr := by omega
theorem xn_b {b dk cal carr med r qal qarr : Nat} (z : b = dk ∨ b = qal ∨ b = qarr) : b = dk ∨ b = cal ∨ b = carr ∨ b = med ∨ b = r ∨ b = qal ∨ b = qarr := by omega

set_option maxHeartbeats 4000000 in
set_option maxRecDepth 100000 in
theorem c_DK_passUntilEnd_idle (l : Launch) (E : fh_E) (h : fh_H) (dk qu med cs : Nat)  (ul tm hd up wy sd il : Int32) (hd0 : h dk = some (.inr (5, [.ref qu, .ref med, .ref cs, .null, .int ul, .int tm, .int hd, .int up, .int wy, .int sd, .int il]))) (v : Int32) : fh_Met l y_DK_passUntilEnd w_DK_passUntilEnd ({ frames := 9, cells := 2, slots := 76, locals := 234 }) E [.ref dk, .int v] h (fun r h1 => r = some (.int v) ∧ h1 = va_up h dk (some (.inr (5, [.ref qu, .ref med, .ref cs, .null, .int ul, .int (tm + v), .int hd, .int up, .int wy, .int sd, .int (il + v)])))) 2 76 := by
  refine fh_ofW (cc := b_DK_passUntilEnd) (maxL := 3) (ret := (some .int)) (by decide) rfl (Nat.le_of_ble_eq_true rfl) ?_
  intro p e s m below meth c A ls hx hb hr hml hown hts hlocks hname hnoh hadm hA hK hZ hP hS hl
  have hG : ∀ w ∈ G, w.before _ s = true := fun w hw => hts w (List.mem_cons_of_mem _ hw)
  have hown : s.vm.findClass R_DK = some m.cls := hown
  have hl : lv_has ls 3 [(0, .ref dk), (1, .int v)] := hl
  refine lv_aload_n hx hb d_DK_passUntilEnd_0 rfl (lv_at hl 0 rfl) ?_
  refine fh_get hx hb hG C_DK iG_DK hown hK hP hd0 3 (by decide) gm92 rfl d_DK_passUntilEnd_1 ?_
  refine lv_ifnonnullN hx hb d_DK_passUntilEnd_4 ?_
  refine lv_aload_n hx hb d_DK_passUntilEnd_7 rfl (lv_at hl 0 rfl) ?_
  refine lv_dup hx hb d_DK_passUntilEnd_8 rfl ?_
  refine fh_get hx hb hG C_DK iG_DK hown hK hP hd0 5 (by decide) gm96 rfl d_DK_passUntilEnd_9 ?_
  refine lv_iload_n hx hb d_DK_passUntilEnd_12 rfl (lv_at hl 1 rfl) ?_
  refine lv_iadd hx hb d_DK_passUntilEnd_13 ?_
  refine fh_put hx hb hG C_DK iG_DK hown hK hP hS hd0 5 (by decide) gm96 rfl (v := .int (tm + v)) rfl rfl (Nat.le_of_ble_eq_true rfl) d_DK_passUntilEnd_14 (fun H locs hP hS => ?_)
  obtain ⟨h_1, eh_2⟩ : ∃ z : fh_H, z = va_up h dk (some (.inr (5, [.ref qu, .ref med, .ref cs, .null, .int ul, .int (tm + v), .int hd, .int up, .int wy, .int sd, .int il]))) := ⟨_, rfl⟩
  have hP : fh_P E.1 vwCl A h_1 H := by rw [eh_2]; exact hP
  have k_3 : h_1 dk = some (.inr (5, [.ref qu, .ref med, .ref cs, .null, .int ul, .int (tm + v), .int hd, .int up, .int wy, .int sd, .int il])) := by rw [eh_2]; exact va_up_self _ _ _
  refine lv_aload_n hx hb d_DK_passUntilEnd_17 rfl (lv_at hl 0 rfl) ?_
  refine lv_dup hx hb d_DK_passUntilEnd_18 rfl ?_
  refine fh_get hx hb hG C_DK iG_DK hown hK hP k_3 10 (by decide) gm104 rfl d_DK_passUntilEnd_19 ?_
  refine lv_iload_n hx hb d_DK_passUntilEnd_22 rfl (lv_at hl 1 rfl) ?_
  refine lv_iadd hx hb d_DK_passUntilEnd_23 ?_
  refine fh_put hx hb hG C_DK iG_DK hown hK hP hS k_3 10 (by decide) gm104 rfl (v := .int (il + v)) rfl rfl (Nat.le_of_ble_eq_true rfl) d_DK_passUntilEnd_24 (fun H locs hP hS => ?_)
  obtain ⟨h_4, eh_5⟩ : ∃ z : fh_H, z = va_up h_1 dk (some (.inr (5, [.ref qu, .ref med, .ref cs, .null, .int ul, .int (tm + v), .int hd, .int up, .int wy, .int sd, .int (il + v)]))) := ⟨_, rfl⟩
  have hP : fh_P E.1 vwCl A h_4 H := by rw [eh_5]; exact hP
  have k_6 : h_4 dk = some (.inr (5, [.ref qu, .ref med, .ref cs, .null, .int ul, .int (tm + v), .int hd, .int up, .int wy, .int sd, .int (il + v)])) := by rw [eh_5]; exact va_up_self _ _ _
  refine lv_iload_n hx hb d_DK_passUntilEnd_27 rfl (lv_at hl 1 rfl) ?_
  exact fh_iret hx hb hr hlocks (Nat.le_of_ble_eq_true rfl) (Nat.le_of_ble_eq_true rfl) hP hS ⟨rfl, by rw [eh_5, eh_2, bx_uu]⟩ d_DK_passUntilEnd_28

set_option maxHeartbeats 4000000 in
set_option maxRecDepth 100000 in
theorem c_DK_passUntilEnd_part (l : Launch) (E : fh_E) (h : fh_H) (dk qu med cs : Nat) (a9 : Nat) (tm hd up wy sd il : Int32) (u n : Nat) (hnu : n < u) (hu : u < 100000) (hd0 : h dk = some (.inr (5, [.ref qu, .ref med, .ref cs, .ref a9, .int (nI u), .int tm, .int hd, .int up, .int wy, .int sd, .int il])))  : fh_Met l y_DK_passUntilEnd w_DK_passUntilEnd ({ frames := 9, cells := 2, slots := 76, locals := 234 }) E [.ref dk, .int (nI n)] h (fun r h1 => r = some (.int (nI n)) ∧ h1 = va_up h dk (some (.inr (5, [.ref qu, .ref med, .ref cs, .ref a9, .int (nI (u - n)), .int (tm + nI n), .int hd, .int up, .int wy, .int sd, .int il])))) 2 76 := by
  refine fh_ofW (cc := b_DK_passUntilEnd) (maxL := 3) (ret := (some .int)) (by decide) rfl (Nat.le_of_ble_eq_true rfl) ?_
  intro p e s m below meth c A ls hx hb hr hml hown hts hlocks hname hnoh hadm hA hK hZ hP hS hl
  have hG : ∀ w ∈ G, w.before _ s = true := fun w hw => hts w (List.mem_cons_of_mem _ hw)
  have hown : s.vm.findClass R_DK = some m.cls := hown
  have hl : lv_has ls 3 [(0, .ref dk), (1, .int (nI n))] := hl
  refine lv_aload_n hx hb d_DK_passUntilEnd_0 rfl (lv_at hl 0 rfl) ?_
  refine fh_get hx hb hG C_DK iG_DK hown hK hP hd0 3 (by decide) gm92 rfl d_DK_passUntilEnd_1 ?_
  refine lv_ifnonnull (tgt := 29) hx hb d_DK_passUntilEnd_4 (by decide) ?_
  refine lv_iload_n hx hb d_DK_passUntilEnd_29 rfl (lv_at hl 1 rfl) ?_
  refine lv_aload_n hx hb d_DK_passUntilEnd_30 rfl (lv_at hl 0 rfl) ?_
  refine fh_get hx hb hG C_DK iG_DK hown hK hP hd0 4 (by decide) gm94 rfl d_DK_passUntilEnd_31 ?_
  refine va_mmin hx hb (hml.trans hl.1.symm) hown (hG _ gm249) (hG _ gm250) (hG _ gm19) (hG _ gm251) (Nat.le_of_ble_eq_true rfl) (Nat.le_of_ble_eq_true rfl) (Nat.le_of_ble_eq_true rfl) (Nat.le_of_ble_eq_true rfl) d_DK_passUntilEnd_34 ?_
  refine W.eq (g2 := F0 m 37 ls [.int (nI n)]) (by rw [mn_lt hnu (by omega)]) ?_
  refine lv_istore_n (lv' := [(2, .int (nI n)), (0, .ref dk), (1, .int (nI n))]) hx hb d_DK_passUntilEnd_37 rfl hl (by decide) rfl (fun ls hl => ?_)
  refine lv_aload_n hx hb d_DK_passUntilEnd_38 rfl (lv_at hl 1 rfl) ?_
  refine lv_dup hx hb d_DK_passUntilEnd_39 rfl ?_
  refine fh_get hx hb hG C_DK iG_DK hown hK hP hd0 5 (by decide) gm96 rfl d_DK_passUntilEnd_40 ?_
  refine lv_iload_n hx hb d_DK_passUntilEnd_43 rfl (lv_at hl 0 rfl) ?_
  refine lv_iadd hx hb d_DK_passUntilEnd_44 ?_
  refine fh_put hx hb hG C_DK iG_DK hown hK hP hS hd0 5 (by decide) gm96 rfl (v := .int (tm + ((nI n)))) rfl rfl (Nat.le_of_ble_eq_true rfl) d_DK_passUntilEnd_45 (fun H locs hP hS => ?_)
  obtain ⟨h_1, eh_2⟩ : ∃ z : fh_H, z = va_up h dk (some (.inr (5, [.ref qu, .ref med, .ref cs, .ref a9, .int (nI u), .int (tm + ((nI n))), .int hd, .int up, .int wy, .int sd, .int il]))) := ⟨_, rfl⟩
  have hP : fh_P E.1 vwCl A h_1 H := by rw [eh_2]; exact hP
  have k_3 : h_1 dk = some (.inr (5, [.ref qu, .ref med, .ref cs, .ref a9, .int (nI u), .int (tm + ((nI n))), .int hd, .int up, .int wy, .int sd, .int il])) := by rw [eh_2]; exact va_up_self _ _ _
  refine lv_aload_n hx hb d_DK_passUntilEnd_48 rfl (lv_at hl 1 rfl) ?_
  refine lv_dup hx hb d_DK_passUntilEnd_49 rfl ?_
  refine fh_get hx hb hG C_DK iG_DK hown hK hP k_3 4 (by decide) gm94 rfl d_DK_passUntilEnd_50 ?_
  refine lv_iload_n hx hb d_DK_passUntilEnd_53 rfl (lv_at hl 0 rfl) ?_
  refine lv_isub hx hb d_DK_passUntilEnd_54 ?_
  refine W.eq (g2 := F0 m 55 ls [.int (nI (u - n)), .ref dk]) (by rw [pk_sub (by omega)]) ?_
  refine fh_put hx hb hG C_DK iG_DK hown hK hP hS k_3 4 (by decide) gm94 rfl (v := .int (nI (u - n))) rfl rfl (Nat.le_of_ble_eq_true rfl) d_DK_passUntilEnd_55 (fun H locs hP hS => ?_)
  obtain ⟨h_4, eh_5⟩ : ∃ z : fh_H, z = va_up h_1 dk (some (.inr (5, [.ref qu, .ref med, .ref cs, .ref a9, .int (nI (u - n)), .int (tm + ((nI n))), .int hd, .int up, .int wy, .int sd, .int il]))) := ⟨_, rfl⟩
  have hP : fh_P E.1 vwCl A h_4 H := by rw [eh_5]; exact hP
  have k_6 : h_4 dk = some (.inr (5, [.ref qu, .ref med, .ref cs, .ref a9, .int (nI (u - n)), .int (tm + ((nI n))), .int hd, .int up, .int wy, .int sd, .int il])) := by rw [eh_5]; exact va_up_self _ _ _
  refine lv_aload_n hx hb d_DK_passUntilEnd_58 rfl (lv_at hl 1 rfl) ?_
  refine fh_get hx hb hG C_DK iG_DK hown hK hP k_6 4 (by decide) gm94 rfl d_DK_passUntilEnd_59 ?_
  refine lv_if_gt (tgt := 73) hx hb d_DK_passUntilEnd_62 (by decide) (fun c_7 => ?_) (fun c_7 => ?_)
  · skip
    refine lv_iload_n hx hb d_DK_passUntilEnd_73 rfl (lv_at hl 0 rfl) ?_
    exact fh_iret hx hb hr hlocks (Nat.le_of_ble_eq_true rfl) (Nat.le_of_ble_eq_true rfl) hP hS ⟨rfl, by rw [eh_5, eh_2, bx_uu]⟩ d_DK_passUntilEnd_74
  · skip
    exact absurd (show nI 0 < nI (u - n) from nI_lt (by omega) (by omega)) c_7

set_option maxHeartbeats 4000000 in
set_option maxRecDepth 100000 in
theorem c_DK_passUntilEnd_end (l : Launch) (E : fh_E) (h : fh_H) (dk qu qal qarr med cs cal carr : Nat) (rqs : List tQ) (mf : Nat → Int32) (cps : List tC) (r9 : tQ) (tm hd up wy sd il : Int32) (u n : Nat) (hun : u ≤ n) (hn : n < 100000) (hD : DKs E h dk qu qal qarr med cs cal carr rqs mf cps (some r9) (nI u) tm hd up wy sd il) (hq41 : rqs.length ≤ 41) (hc6 : cps.length ≤ 6) (hB : ∀ c ∈ cps, bOK c.2.1) (h9B : r9.2.2.1 ≠ 2 → bOK r9.2.2.2.1) (h9k : r9.2.2.1 = 0 ∨ r9.2.2.1 = 1 ∨ r9.2.2.1 = 2) : fh_Met l y_DK_passUntilEnd w_DK_passUntilEnd ({ frames := 9, cells := 2, slots := 76, locals := 234 }) E [.ref dk, .int (nI n)] h (fun r h1 => r = some (.int (nI u)) ∧ ∃ q carr', DKs E h1 dk qu qal qarr med cs cal (carr') rqs ((endT mf cps r9 q).1) ((endT mf cps r9 q).2) none 0 (tm + nI u) hd up wy (sd + 1) il ∧ NewA h carr carr' ∧ h1 r9.1 = some (.inr (3, [.int r9.2.1, .int r9.2.2.1, .int r9.2.2.2.1, .int r9.2.2.2.2.1, .int (endV mf cps r9), .int 1])) ∧ Fr h h1 (fun b => b = dk ∨ b = cal ∨ b = carr ∨ b = med ∨ b = r9.1) ∧ Dm h h1 ∧ h q = none) 2 76 := by
  refine fh_ofW (cc := b_DK_passUntilEnd) (maxL := 3) (ret := (some .int)) (by decide) rfl (Nat.le_of_ble_eq_true rfl) ?_
  intro p e s m below meth c A ls hx hb hr hml hown hts hlocks hname hnoh hadm hA hK hZ hP hS hl
  have hG : ∀ w ∈ G, w.before _ s = true := fun w hw => hts w (List.mem_cons_of_mem _ hw)
  have hown : s.vm.findClass R_DK = some m.cls := hown
  have hl : lv_has ls 3 [(0, .ref dk), (1, .int (nI n))] := hl
  have hd0 : h dk = some (.inr (5, [.ref qu, .ref med, .ref cs, .ref r9.1, .int (nI u), .int tm, .int hd, .int up, .int wy, .int sd, .int il])) := hD.1
  have hed := hZ.edn hP
  refine lv_aload_n hx hb d_DK_passUntilEnd_0 rfl (lv_at hl 0 rfl) ?_
  refine fh_get hx hb hG C_DK iG_DK hown hK hP hd0 3 (by decide) gm92 rfl d_DK_passUntilEnd_1 ?_
  refine lv_ifnonnull (tgt := 29) hx hb d_DK_passUntilEnd_4 (by decide) ?_
  refine lv_iload_n hx hb d_DK_passUntilEnd_29 rfl (lv_at hl 1 rfl) ?_
  refine lv_aload_n hx hb d_DK_passUntilEnd_30 rfl (lv_at hl 0 rfl) ?_
  refine fh_get hx hb hG C_DK iG_DK hown hK hP hd0 4 (by decide) gm94 rfl d_DK_passUntilEnd_31 ?_
  refine va_mmin hx hb (hml.trans hl.1.symm) hown (hG _ gm249) (hG _ gm250) (hG _ gm19) (hG _ gm251) (Nat.le_of_ble_eq_true rfl) (Nat.le_of_ble_eq_true rfl) (Nat.le_of_ble_eq_true rfl) (Nat.le_of_ble_eq_true rfl) d_DK_passUntilEnd_34 ?_
  refine W.eq (g2 := F0 m 37 ls [.int (nI u)]) (by rw [mn_ge hun (by omega)]) ?_
  refine lv_istore_n (lv' := [(2, .int (nI u)), (0, .ref dk), (1, .int (nI n))]) hx hb d_DK_passUntilEnd_37 rfl hl (by decide) rfl (fun ls hl => ?_)
  refine lv_aload_n hx hb d_DK_passUntilEnd_38 rfl (lv_at hl 1 rfl) ?_
  refine lv_dup hx hb d_DK_passUntilEnd_39 rfl ?_
  refine fh_get hx hb hG C_DK iG_DK hown hK hP hd0 5 (by decide) gm96 rfl d_DK_passUntilEnd_40 ?_
  refine lv_iload_n hx hb d_DK_passUntilEnd_43 rfl (lv_at hl 0 rfl) ?_
  refine lv_iadd hx hb d_DK_passUntilEnd_44 ?_
  refine fh_put hx hb hG C_DK iG_DK hown hK hP hS hd0 5 (by decide) gm96 rfl (v := .int (tm + ((nI u)))) rfl rfl (Nat.le_of_ble_eq_true rfl) d_DK_passUntilEnd_45 (fun H locs hP hS => ?_)
  obtain ⟨h_1, eh_2⟩ : ∃ z : fh_H, z = va_up h dk (some (.inr (5, [.ref qu, .ref med, .ref cs, .ref r9.1, .int (nI u), .int (tm + ((nI u))), .int hd, .int up, .int wy, .int sd, .int il]))) := ⟨_, rfl⟩
  have hP : fh_P E.1 vwCl A h_1 H := by rw [eh_2]; exact hP
  have k_3 : h_1 dk = some (.inr (5, [.ref qu, .ref med, .ref cs, .ref r9.1, .int (nI u), .int (tm + ((nI u))), .int hd, .int up, .int wy, .int sd, .int il])) := by rw [eh_2]; exact va_up_self _ _ _
  have ed1 := hZ.edn hP
  refine lv_aload_n hx hb d_DK_passUntilEnd_48 rfl (lv_at hl 1 rfl) ?_
  refine lv_dup hx hb d_DK_passUntilEnd_49 rfl ?_
  refine fh_get hx hb hG C_DK iG_DK hown hK hP k_3 4 (by decide) gm94 rfl d_DK_passUntilEnd_50 ?_
  refine lv_iload_n hx hb d_DK_passUntilEnd_53 rfl (lv_at hl 0 rfl) ?_
  refine lv_isub hx hb d_DK_passUntilEnd_54 ?_
  refine W.eq (g2 := F0 m 55 ls [.int 0, .ref dk]) (by rw [Int32.sub_self]) ?_
  refine fh_put hx hb hG C_DK iG_DK hown hK hP hS k_3 4 (by decide) gm94 rfl (v := .int 0) rfl rfl (Nat.le_of_ble_eq_true rfl) d_DK_passUntilEnd_55 (fun H locs hP hS => ?_)
  obtain ⟨h_4, eh_5⟩ : ∃ z : fh_H, z = va_up h_1 dk (some (.inr (5, [.ref qu, .ref med, .ref cs, .ref r9.1, .int 0, .int (tm + ((nI u))), .int hd, .int up, .int wy, .int sd, .int il]))) := ⟨_, rfl⟩
  have hP : fh_P E.1 vwCl A h_4 H := by rw [eh_5]; exact hP
  have k_6 : h_4 dk = some (.inr (5, [.ref qu, .ref med, .ref cs, .ref r9.1, .int 0, .int (tm + ((nI u))), .int hd, .int up, .int wy, .int sd, .int il])) := by rw [eh_5]; exact va_up_self _ _ _
  refine lv_aload_n hx hb d_DK_passUntilEnd_58 rfl (lv_at hl 1 rfl) ?_
  refine fh_get hx hb hG C_DK iG_DK hown hK hP k_6 4 (by decide) gm94 rfl d_DK_passUntilEnd_59 ?_
  refine lv_if_gt (tgt := 73) hx hb d_DK_passUntilEnd_62 (by decide) (fun c_7 => ?_) (fun c_7 => ?_)
  · skip
    exact absurd c_7 (by decide)
  · skip
    have hD2 : DKs E h_4 dk qu qal qarr med cs cal carr rqs mf cps (some r9) 0 (tm + nI u) hd up wy sd il := (hD.up hed (fun _ z => z) eh_2).up ed1 (fun _ z => z) eh_5
    refine lv_aload_n hx hb d_DK_passUntilEnd_65 rfl (lv_at hl 1 rfl) ?_
    refine lv_aload_n hx hb d_DK_passUntilEnd_66 rfl (lv_at hl 1 rfl) ?_
    refine fh_get hx hb hG C_DK iG_DK hown hK hP k_6 3 (by decide) gm92 rfl d_DK_passUntilEnd_67 ?_
    refine fh_callV (C := R_DK) (y := y_DK_end) (bytes := b_DK_end) (maxL := 2) (ret := none) (index := 94) (As := [.ref r9.1]) (rest := []) ⟨hx, hb, hml, hown, hG⟩ (c_DK_end l E h_4 dk qu qal qarr med cs cal carr rqs mf cps r9 0 (tm + nI u) hd up wy sd il hD2 hq41 hc6 hB h9B h9k) (cwV 1 hG (gV gm252 gm254 gs_DK_end gm6 gm255) rfl rfl rfl ⟨rfl, hdy_DK_end⟩ ⟨Nat.le_of_ble_eq_true rfl, Nat.le_of_ble_eq_true rfl⟩) C_DK.1 k_6 hK hZ hP hS hA rfl hl.1 rfl (Nat.le_of_ble_eq_true rfl) d_DK_passUntilEnd_70 ⟨Nat.le_of_ble_eq_true rfl, Nat.le_of_ble_eq_true rfl⟩ (fun r h1 H locs hq9 hP hS => ?_)
    obtain ⟨rfl, q, carr1, g1, g2, g3, g4, g5, g6⟩ := hq9
    refine W.eq (g2 := F0 m 73 ls []) rfl ?_
    refine lv_iload_n hx hb d_DK_passUntilEnd_73 rfl (lv_at hl 0 rfl) ?_
    have D0 : Dm h h_4 := ((dm_up eh_2).trans (dm_up eh_5))
    have F0_ : Fr h h_4 (fun b => b = dk) := fun b e hb n => by rw [eh_5, va_up_ne _ _ n, eh_2, va_up_ne _ _ n]; exact hb
    exact fh_iret hx hb hr hlocks (Nat.le_of_ble_eq_true rfl) (Nat.le_of_ble_eq_true rfl) hP hS ⟨rfl, q, carr1, g1, g2.imp id (D0 carr1), g3, F0_.trans g4 (fun b z => Or.inl z) (fun b _ z => z), D0.trans g5, D0 q g6⟩ d_DK_passUntilEnd_74

set_option maxHeartbeats 4000000 in
set_option maxRecDepth 100000 in
theorem c_DK_passToNextEnd (l : Launch) (E : fh_E) (h : fh_H) (dk qu qal qarr med cs cal carr : Nat) (rqs : List tQ) (mf : Nat → Int32) (cps : List tC) (sv : Option tQ) (rqs2 : List tQ) (r9 : tQ) (u : Nat) (hd2 up2 : Int32) (ul tm hd up wy sd il : Int32) (hu : u < 100000) (hN : Nx rqs cps sv ul tm hd up wy rqs2 r9 u hd2 up2) (hD : DKs E h dk qu qal qarr med cs cal carr rqs mf cps sv ul tm hd up wy sd il) (hq41 : rqs.length ≤ 41) (hc6 : cps.length ≤ 6) (hB : ∀ c ∈ cps, bOK c.2.1) (h9B : r9.2.2.1 ≠ 2 → bOK r9.2.2.2.1) (h9k : r9.2.2.1 = 0 ∨ r9.2.2.1 = 1 ∨ r9.2.2.1 = 2) : fh_Met l y_DK_passToNextEnd w_DK_passToNextEnd ({ frames := 10, cells := 2, slots := 76, locals := 256 }) E [.ref dk] h (fun r h1 => r = none ∧ ∃ q carr', DKs E h1 dk qu qal qarr med cs cal (carr') rqs2 ((endT mf cps r9 q).1) ((endT mf cps r9 q).2) none 0 (tm + nI u) hd2 up2 wy (sd + 1) il ∧ NewA h carr carr' ∧ h1 r9.1 = some (.inr (3, [.int r9.2.1, .int r9.2.2.1, .int r9.2.2.2.1, .int r9.2.2.2.2.1, .int (endV mf cps r9), .int 1])) ∧ Fr h h1 (fun b => b = dk ∨ b = cal ∨ b = carr ∨ b = med ∨ b = r9.1 ∨ b = qal ∨ b = qarr) ∧ Dm h h1 ∧ h q = none) 2 76 := by
  refine fh_ofW (cc := b_DK_passToNextEnd) (maxL := 1) (ret := none) (by decide) rfl (Nat.le_of_ble_eq_true rfl) ?_
  intro p e s m below meth c A ls hx hb hr hml hown hts hlocks hname hnoh hadm hA hK hZ hP hS hl
  have hG : ∀ w ∈ G, w.before _ s = true := fun w hw => hts w (List.mem_cons_of_mem _ hw)
  have hown : s.vm.findClass R_DK = some m.cls := hown
  have hl : lv_has ls 1 [(0, .ref dk)] := hl
  rcases hN with ⟨rfl, rfl, rfl, rfl, rfl⟩ | ⟨rfl, k, n1, n2, rfl, n3, rfl, rfl⟩
  · have hd0 : h dk = some (.inr (5, [.ref qu, .ref med, .ref cs, .ref r9.1, .int (nI u), .int tm, .int hd2, .int up2, .int wy, .int sd, .int il])) := hD.1
    refine lv_aload_n hx hb d_DK_passToNextEnd_0 rfl (lv_at hl 0 rfl) ?_
    refine fh_callV (C := R_DK) (y := y_DK_beginIfIdle) (bytes := b_DK_beginIfIdle) (maxL := 3) (ret := none) (index := 45) (As := []) (rest := []) ⟨hx, hb, hml, hown, hG⟩ (c_DK_beginIfIdle_busy l E h dk qu med cs r9.1 (nI u) tm hd2 up2 wy sd il hd0) (cwV 0 hG (gV gm172 gm174 gs_DK_beginIfIdle gm6 gm175) rfl rfl rfl ⟨rfl, hdy_DK_beginIfIdle⟩ ⟨Nat.le_of_ble_eq_true rfl, Nat.le_of_ble_eq_true rfl⟩) C_DK.1 hd0 hK hZ hP hS hA rfl hl.1 rfl (Nat.le_of_ble_eq_true rfl) d_DK_passToNextEnd_1 ⟨Nat.le_of_ble_eq_true rfl, Nat.le_of_ble_eq_true rfl⟩ (fun r h1 H locs hq9 hP hS => ?_)
    obtain ⟨rfl, e9⟩ := hq9
    rw [e9] at hP
    refine W.eq (g2 := F0 m 4 ls []) rfl ?_
    refine lv_aload_n hx hb d_DK_passToNextEnd_4 rfl (lv_at hl 0 rfl) ?_
    refine fh_get hx hb hG C_DK iG_DK hown hK hP hd0 3 (by decide) gm92 rfl d_DK_passToNextEnd_5 ?_
    refine lv_ifnull hx hb d_DK_passToNextEnd_8 ?_
    refine lv_aload_n hx hb d_DK_passToNextEnd_11 rfl (lv_at hl 0 rfl) ?_
    refine lv_aload_n hx hb d_DK_passToNextEnd_12 rfl (lv_at hl 0 rfl) ?_
    refine fh_get hx hb hG C_DK iG_DK hown hK hP hd0 4 (by decide) gm94 rfl d_DK_passToNextEnd_13 ?_
    refine fh_callV (C := R_DK) (y := y_DK_passUntilEnd) (bytes := b_DK_passUntilEnd) (maxL := 3) (ret := (some .int)) (index := 48) (As := [.int (nI u)]) (rest := []) ⟨hx, hb, hml, hown, hG⟩ (c_DK_passUntilEnd_end l E h dk qu qal qarr med cs cal carr _ mf cps r9 tm _ _ wy sd il u u (Nat.le_refl _) hu hD hq41 hc6 hB h9B h9k) (cwV 1 hG (gV gm245 gm247 gs_DK_passUntilEnd gm6 gm248) rfl rfl rfl ⟨rfl, hdy_DK_passUntilEnd⟩ ⟨Nat.le_of_ble_eq_true rfl, Nat.le_of_ble_eq_true rfl⟩) C_DK.1 hd0 hK hZ hP hS hA rfl hl.1 rfl (Nat.le_of_ble_eq_true rfl) d_DK_passToNextEnd_16 ⟨Nat.le_of_ble_eq_true rfl, Nat.le_of_ble_eq_true rfl⟩ (fun r h1 H locs hq9 hP hS => ?_)
    obtain ⟨rfl, q, carr1, g1, g2, g3, g4, g5, g6⟩ := hq9
    refine W.eq (g2 := F0 m 19 ls [.int (nI u)]) rfl ?_
    refine lv_pop hx hb d_DK_passToNextEnd_19 rfl ?_
    exact fh_vret hx hb hr hlocks (Nat.le_of_ble_eq_true rfl) (Nat.le_of_ble_eq_true rfl) hP hS ⟨rfl, q, carr1, g1, g2, g3, g4.mono (fun b z => xn_e z), g5, g6⟩ d_DK_passToNextEnd_20
  · have hd0 : h dk = some (.inr (5, [.ref qu, .ref med, .ref cs, .null, .int ul, .int tm, .int hd, .int up, .int wy, .int sd, .int il])) := hD.1
    refine lv_aload_n hx hb d_DK_passToNextEnd_0 rfl (lv_at hl 0 rfl) ?_
    refine fh_callV (C := R_DK) (y := y_DK_beginIfIdle) (bytes := b_DK_beginIfIdle) (maxL := 3) (ret := none) (index := 45) (As := []) (rest := []) ⟨hx, hb, hml, hown, hG⟩ (c_DK_beginIfIdle_go l E h dk qu qal qarr med cs cal carr rqs mf cps r9 k ul tm hd up wy sd il hD hq41 hc6 n1 n2) (cwV 0 hG (gV gm172 gm174 gs_DK_beginIfIdle gm6 gm175) rfl rfl rfl ⟨rfl, hdy_DK_beginIfIdle⟩ ⟨Nat.le_of_ble_eq_true rfl, Nat.le_of_ble_eq_true rfl⟩) C_DK.1 hd0 hK hZ hP hS hA rfl hl.1 rfl (Nat.le_of_ble_eq_true rfl) d_DK_passToNextEnd_1 ⟨Nat.le_of_ble_eq_true rfl, Nat.le_of_ble_eq_true rfl⟩ (fun r h1 H locs hq9 hP hS => ?_)
    obtain ⟨rfl, j1, j2, j3⟩ := hq9
    rw [n3] at j1
    have hd1 := j1.1
    refine W.eq (g2 := F0 m 4 ls []) rfl ?_
    have hd1 : h1 dk = some (.inr (5, [.ref qu, .ref med, .ref cs, .ref r9.1, .int (nI u), .int tm, .int (begH r9.2 hd), .int (chs (rqs.map (·.2)) tm hd up wy).2, .int wy, .int sd, .int il])) := hd1
    refine lv_aload_n hx hb d_DK_passToNextEnd_4 rfl (lv_at hl 0 rfl) ?_
    refine fh_get hx hb hG C_DK iG_DK hown hK hP hd1 3 (by decide) gm92 rfl d_DK_passToNextEnd_5 ?_
    refine lv_ifnull hx hb d_DK_passToNextEnd_8 ?_
    refine lv_aload_n hx hb d_DK_passToNextEnd_11 rfl (lv_at hl 0 rfl) ?_
    refine lv_aload_n hx hb d_DK_passToNextEnd_12 rfl (lv_at hl 0 rfl) ?_
    refine fh_get hx hb hG C_DK iG_DK hown hK hP hd1 4 (by decide) gm94 rfl d_DK_passToNextEnd_13 ?_
    refine fh_callV (C := R_DK) (y := y_DK_passUntilEnd) (bytes := b_DK_passUntilEnd) (maxL := 3) (ret := (some .int)) (index := 48) (As := [.int (nI u)]) (rest := []) ⟨hx, hb, hml, hown, hG⟩ (c_DK_passUntilEnd_end l E h1 dk qu qal qarr med cs cal carr _ mf cps r9 tm _ _ wy sd il u u (Nat.le_refl _) hu j1 (Nat.le_trans (List.length_eraseIdx_le ..) hq41) hc6 hB h9B h9k) (cwV 1 hG (gV gm245 gm247 gs_DK_passUntilEnd gm6 gm248) rfl rfl rfl ⟨rfl, hdy_DK_passUntilEnd⟩ ⟨Nat.le_of_ble_eq_true rfl, Nat.le_of_ble_eq_true rfl⟩) C_DK.1 hd1 hK hZ hP hS hA rfl hl.1 rfl (Nat.le_of_ble_eq_true rfl) d_DK_passToNextEnd_16 ⟨Nat.le_of_ble_eq_true rfl, Nat.le_of_ble_eq_true rfl⟩ (fun r h2 H locs hq9 hP hS => ?_)
    obtain ⟨rfl, q, carr1, g1, g2, g3, g4, g5, g6⟩ := hq9
    refine W.eq (g2 := F0 m 19 ls [.int (nI u)]) rfl ?_
    refine lv_pop hx hb d_DK_passToNextEnd_19 rfl ?_
    exact fh_vret hx hb hr hlocks (Nat.le_of_ble_eq_true rfl) (Nat.le_of_ble_eq_true rfl) hP hS ⟨rfl, q, carr1, g1, g2.imp id (j3 carr1), g3, j2.trans g4 (fun b z => xn_b z) (fun b _ z => xn_e z), j3.trans g5, j3 q g6⟩ d_DK_passToNextEnd_20

set_option maxHeartbeats 4000000 in
set_option maxRecDepth 100000 in
theorem c_DK_loseAllButMedia (l : Launch) (E : fh_E) (h : fh_H) (dk qu qal qarr med cs cal carr : Nat) (rqs : List tQ) (mf : Nat → Int32) (cps : List tC) (sv : Option tQ) (ul tm hd up wy sd il : Int32) (hD : DKs E h dk qu qal qarr med cs cal carr rqs mf cps sv ul tm hd up wy sd il) : fh_Met l y_DK_loseAllButMedia w_DK_loseAllButMedia ({ frames := 2, cells := 0, slots := 0, locals := 43 }) E [.ref dk] h (fun r h1 => r = none ∧ DKs E h1 dk qu qal qarr med cs cal carr rqs mf ([]) none 0 tm 0 1 wy sd il ∧ Fr h h1 (fun b => b = dk ∨ b = cal ∨ b = carr) ∧ Dm h h1) 0 0 := by
  refine fh_ofW (cc := b_DK_loseAllButMedia) (maxL := 1) (ret := none) (by decide) rfl (Nat.le_of_ble_eq_true rfl) ?_
  intro p e s m below meth c A ls hx hb hr hml hown hts hlocks hname hnoh hadm hA hK hZ hP hS hl
  have hG : ∀ w ∈ G, w.before _ s = true := fun w hw => hts w (List.mem_cons_of_mem _ hw)
  have hown : s.vm.findClass R_DK = some m.cls := hown
  have hl : lv_has ls 1 [(0, .ref dk)] := hl
  have hD0 := hD
  obtain ⟨hd0, hQ, hm, hC, hsv, hnd, hqc, hqa⟩ := hD
  have hed := hZ.edn hP
  obtain ⟨md, hal⟩ := hC.2.1.al
  obtain ⟨mdq, haq⟩ := hQ.2.1.al
  have hcs := hC.1
  have hia := hC.2.1.isArr hed
  refine lv_aload_n hx hb d_DK_loseAllButMedia_0 rfl (lv_at hl 0 rfl) ?_
  refine fh_get hx hb hG C_DK iG_DK hown hK hP hd0 2 (by decide) gm90 rfl d_DK_loseAllButMedia_1 ?_
  refine fh_callV (C := R_CS) (y := y_CS_clear) (bytes := b_CS_clear) (maxL := 1) (ret := none) (index := 69) (As := []) (rest := []) ⟨hx, hb, hml, hown, hG⟩ (c_CS_clear l E h cs cal carr cps hC) (cwV 0 hG (gV gm397 gm381 gm382 gm2 gm383) rfl rfl rfl ⟨rfl, hdy_CS_clear⟩ ⟨Nat.le_of_ble_eq_true rfl, Nat.le_of_ble_eq_true rfl⟩) C_CS.1 hcs hK hZ hP hS hA rfl hl.1 rfl (Nat.le_of_ble_eq_true rfl) d_DK_loseAllButMedia_4 ⟨Nat.le_of_ble_eq_true rfl, Nat.le_of_ble_eq_true rfl⟩ (fun r h1 H locs hq9 hP hS => ?_)
  obtain ⟨rfl, g1, g2⟩ := hq9
  refine W.eq (g2 := F0 m 7 ls []) rfl ?_
  have kd := fr_obj g2 hal hia hd0 (by decide)
  have F1 : Fr h h1 (fun b => b = cal ∨ b = carr) := fun b e hb n => (g2 b (fun z => n (Or.inl z)) (fun z => n (Or.inr z))).trans hb
  have D1 : Dm h h1 := dm_li g2 g1.2.1 hed
  have ed1 := hZ.edn hP
  have hD1 : DKs E h1 dk qu qal qarr med cs cal carr rqs mf ([]) sv ul tm hd up wy sd il := ⟨kd, hQ.keep F1 (by rintro (z | z); exact fh_ne hQ.1 hal (by decide) z; exact hC.2.1.neO hed hQ.1 z) (by rintro (z | z); exact hqc z; exact hC.2.1.neO hed haq z) (fun e he => by rintro (z | z); exact hQ.2.1.neO hed hal z.symm; exact hqa e he z) (fun r hr => by rintro (z | z); exact fh_ne (hQ.2.2 r hr) hal (by decide) z; exact hC.2.1.neO hed (hQ.2.2 r hr) z), (g2 med (fh_neA hm hal) (hC.2.1.neI hed hm)).trans hm, g1, fun r z => ⟨fr_obj g2 hal hia (hsv r z).1 (by decide), (hsv r z).2⟩, hnd, hqc, ad_new hQ.2.1 hqa ed1 (Or.inl rfl)⟩
  refine lv_aload_n hx hb d_DK_loseAllButMedia_7 rfl (lv_at hl 0 rfl) ?_
  refine lv_null hx hb d_DK_loseAllButMedia_8 ?_
  refine fh_put hx hb hG C_DK iG_DK hown hK hP hS kd 3 (by decide) gm92 rfl (v := .null) rfl rfl (Nat.le_of_ble_eq_true rfl) d_DK_loseAllButMedia_9 (fun H locs hP hS => ?_)
  obtain ⟨h_1, eh_2⟩ : ∃ z : fh_H, z = va_up h1 dk (some (.inr (5, [.ref qu, .ref med, .ref cs, .null, .int ul, .int tm, .int hd, .int up, .int wy, .int sd, .int il]))) := ⟨_, rfl⟩
  have hP : fh_P E.1 vwCl A h_1 H := by rw [eh_2]; exact hP
  have k_3 : h_1 dk = some (.inr (5, [.ref qu, .ref med, .ref cs, .null, .int ul, .int tm, .int hd, .int up, .int wy, .int sd, .int il])) := by rw [eh_2]; exact va_up_self _ _ _
  refine lv_aload_n hx hb d_DK_loseAllButMedia_12 rfl (lv_at hl 0 rfl) ?_
  refine lv_iconst (v := 0) hx hb d_DK_loseAllButMedia_13 (by decide) ?_
  refine fh_put hx hb hG C_DK iG_DK hown hK hP hS k_3 4 (by decide) gm94 rfl (v := .int 0) rfl rfl (Nat.le_of_ble_eq_true rfl) d_DK_loseAllButMedia_14 (fun H locs hP hS => ?_)
  obtain ⟨h_4, eh_5⟩ : ∃ z : fh_H, z = va_up h_1 dk (some (.inr (5, [.ref qu, .ref med, .ref cs, .null, .int 0, .int tm, .int hd, .int up, .int wy, .int sd, .int il]))) := ⟨_, rfl⟩
  have hP : fh_P E.1 vwCl A h_4 H := by rw [eh_5]; exact hP
  have k_6 : h_4 dk = some (.inr (5, [.ref qu, .ref med, .ref cs, .null, .int 0, .int tm, .int hd, .int up, .int wy, .int sd, .int il])) := by rw [eh_5]; exact va_up_self _ _ _
  refine lv_aload_n hx hb d_DK_loseAllButMedia_17 rfl (lv_at hl 0 rfl) ?_
  refine lv_iconst (v := 0) hx hb d_DK_loseAllButMedia_18 (by decide) ?_
  refine fh_put hx hb hG C_DK iG_DK hown hK hP hS k_6 6 (by decide) gm97 rfl (v := .int 0) rfl rfl (Nat.le_of_ble_eq_true rfl) d_DK_loseAllButMedia_19 (fun H locs hP hS => ?_)
  obtain ⟨h_7, eh_8⟩ : ∃ z : fh_H, z = va_up h_4 dk (some (.inr (5, [.ref qu, .ref med, .ref cs, .null, .int 0, .int tm, .int 0, .int up, .int wy, .int sd, .int il]))) := ⟨_, rfl⟩
  have hP : fh_P E.1 vwCl A h_7 H := by rw [eh_8]; exact hP
  have k_9 : h_7 dk = some (.inr (5, [.ref qu, .ref med, .ref cs, .null, .int 0, .int tm, .int 0, .int up, .int wy, .int sd, .int il])) := by rw [eh_8]; exact va_up_self _ _ _
  refine lv_aload_n hx hb d_DK_loseAllButMedia_22 rfl (lv_at hl 0 rfl) ?_
  refine lv_iconst (v := 1) hx hb d_DK_loseAllButMedia_23 (by decide) ?_
  refine fh_put hx hb hG C_DK iG_DK hown hK hP hS k_9 7 (by decide) gm99 rfl (v := .int 1) rfl rfl (Nat.le_of_ble_eq_true rfl) d_DK_loseAllButMedia_24 (fun H locs hP hS => ?_)
  obtain ⟨h_10, eh_11⟩ : ∃ z : fh_H, z = va_up h_7 dk (some (.inr (5, [.ref qu, .ref med, .ref cs, .null, .int 0, .int tm, .int 0, .int 1, .int wy, .int sd, .int il]))) := ⟨_, rfl⟩
  have hP : fh_P E.1 vwCl A h_10 H := by rw [eh_11]; exact hP
  have k_12 : h_10 dk = some (.inr (5, [.ref qu, .ref med, .ref cs, .null, .int 0, .int tm, .int 0, .int 1, .int wy, .int sd, .int il])) := by rw [eh_11]; exact va_up_self _ _ _
  have hq : h_10 = va_up h1 dk (some (.inr (5, [.ref qu, .ref med, .ref cs, .null, .int 0, .int tm, .int 0, .int 1, .int wy, .int sd, .int il]))) := by rw [eh_11, eh_8, eh_5, eh_2, bx_uu, bx_uu, bx_uu]
  exact fh_vret hx hb hr hlocks (Nat.le_of_ble_eq_true rfl) (Nat.le_of_ble_eq_true rfl) hP hS ⟨rfl, hD1.up (sv2 := none) ed1 (fun _ z => by cases z) hq, fun b e hb n => by rw [hq, va_up_ne _ _ (fun z => n (Or.inl z)), g2 b (fun z => n (Or.inr (Or.inl z))) (fun z => n (Or.inr (Or.inr z)))]; exact hb, D1.trans (dm_up hq)⟩ d_DK_loseAllButMedia_27
