/-! THE JDK's LIST: what is taken out, cleared, made. -/
theorem li_pred {n : Nat} (h : 0 < n) : nI n - 1 = nI (n - 1) := by
  obtain ⟨k, rfl⟩ : ∃ k, n = k + 1 := ⟨n - 1, by omega⟩
  exact nI_pred k
theorem LI.erase {E : fh_E} {h : fh_H} {al arr cap i : Nat} {F : Nat → Option Nat} {xs : List Nat} {md : Int32} (hi : i < xs.length) (hlen : xs.length ≤ cap) (hcap : cap ≤ 73) (h2 : 2 ≤ cap) (hF : ∀ j, j < xs.length - 1 → F j = (xs.eraseIdx i)[j]?) (ha : h al = some (.inr (0, [.ref arr, .int (nI (xs.length - 1)), .int md]))) (hr : h arr = some (.inl (fh_cO E, cap, .inr (.inr (.inr (.inr (va_up F (xs.length - 1) none))))))) : LI E h al arr (xs.eraseIdx i) := by
  have hl : (xs.eraseIdx i).length = xs.length - 1 := List.length_eraseIdx_of_lt hi
  refine ⟨md, cap, _, by rw [hl]; exact ha, by omega, hcap, fun j hj => ?_, Or.inr ⟨h2, hr⟩⟩
  rw [hl] at hj
  rw [va_up_ne _ _ (by omega)]
  exact hF j hj
theorem LI.emp {E : fh_E} {h : fh_H} {al arr cap : Nat} {F : Nat → Option Nat} {md : Int32} (hcap : cap ≤ 73) (ha : h al = some (.inr (0, [.ref arr, .int (nI 0), .int md]))) (hr : (arr = fh_ed E ∧ cap = 0) ∨ 2 ≤ cap ∧ h arr = some (.inl (fh_cO E, cap, .inr (.inr (.inr (.inr F)))))) : LI E h al arr [] :=
  ⟨md, cap, F, ha, Nat.zero_le _, hcap, fun i hi => absurd hi (Nat.not_lt_zero i), hr⟩
theorem li_er {f : Nat → Option Nat} {xs : List Nat} {i : Nat} (hf : ∀ j, j < xs.length → f j = xs[j]?) (hi : i < xs.length) : ∀ j, j < xs.length - 1 → va_cpy f f (i + 1) i (xs.length - 1 - i) j = (xs.eraseIdx i)[j]? := by
  intro j hj
  rw [List.getElem?_eraseIdx]
  by_cases c : j < i
  · rw [pk_cpy_out (by omega), if_pos c]
    exact hf j (by omega)
  · rw [pk_cpy_in (by omega) (by omega), if_neg c, show i + 1 + (j - i) = j + 1 by omega]
    exact hf (j + 1) (by omega)
theorem li_er0 {f : Nat → Option Nat} {xs : List Nat} {i : Nat} (hf : ∀ j, j < xs.length → f j = xs[j]?) (hi : xs.length - 1 ≤ i) : ∀ j, j < xs.length - 1 → f j = (xs.eraseIdx i)[j]? := by
  intro j hj
  rw [List.getElem?_eraseIdx, if_pos (by omega)]
  exact hf j (by omega)

set_option maxHeartbeats 4000000 in
set_option maxRecDepth 100000 in
theorem c_AL_fastRemove (l : Launch) (E : fh_E) (h : fh_H) (al arr : Nat) (xs : List Nat) (i : Nat) (hL : LI E h al arr xs) (hi : i < xs.length) (hE : ∀ x ∈ xs, EO h x) : fh_Met l y_AL_fastRemove w_AL_fastRemove ({ frames := 1, cells := 0, slots := 0, locals := 60 }) E [.ref al, .ref arr, .int (nI i)] h (fun r h1 => r = none ∧ LI E h1 al arr (xs.eraseIdx i) ∧ ∀ b, b ≠ al → b ≠ arr → h1 b = h b) 0 0 := by
  refine fh_ofW (cc := b_AL_fastRemove) (maxL := 4) (ret := none) (by decide) rfl (Nat.le_of_ble_eq_true rfl) ?_
  intro p e s m below meth c A ls hx hb hr hml hown hts hlocks hname hnoh hadm hA hK hZ hP hS hl
  have hG : ∀ w ∈ G, w.before _ s = true := fun w hw => hts w (List.mem_cons_of_mem _ hw)
  have hown : s.vm.findClass R_AL = some m.cls := hown
  have hl : lv_has ls 4 [(0, .ref al), (1, .ref arr), (2, .int (nI i))] := hl
  obtain ⟨md, cap, f, ha, hlen, hcap, hf, hr0⟩ := hL
  have hr1 := hr0.resolve_left (fun z => by omega)
  have h2 := hr1.1
  have hr0 : h arr = some (.inl (fh_cO E, cap, .inr (.inr (.inr (.inr f))))) := hr1.2
  refine lv_aload_n hx hb d_AL_fastRemove_0 rfl (lv_at hl 0 rfl) ?_
  refine lv_dup hx hb d_AL_fastRemove_1 rfl ?_
  refine fh_getS (ref := "java/util/ArrayList") hx hb hG C_AL iG_AL hown hK hP ha 2 (by decide) gm54 (u_same (hG _ gm55)) rfl d_AL_fastRemove_2 ?_
  refine lv_iconst (v := 1) hx hb d_AL_fastRemove_5 (by decide) ?_
  refine lv_iadd hx hb d_AL_fastRemove_6 ?_
  refine fh_putS (ref := "java/util/ArrayList") hx hb hG C_AL iG_AL hown hK hP hS ha 2 (by decide) gm54 (u_same (hG _ gm55)) rfl (v := .int (md + 1)) rfl rfl (Nat.le_of_ble_eq_true rfl) d_AL_fastRemove_7 (fun H locs hP hS => ?_)
  obtain ⟨h_1, eh_2⟩ : ∃ z : fh_H, z = va_up h al (some (.inr (0, [.ref arr, .int (nI xs.length), .int (md + 1)]))) := ⟨_, rfl⟩
  have hP : fh_P E.1 vwCl A h_1 H := by rw [eh_2]; exact hP
  have k_3 : h_1 arr = some (.inl (fh_cO E, cap, .inr (.inr (.inr (.inr f))))) := by rw [eh_2]; exact fh_up hr0 (fh_neA hr0 ha)
  have k_4 : h_1 al = some (.inr (0, [.ref arr, .int (nI xs.length), .int (md + 1)])) := by rw [eh_2]; exact va_up_self _ _ _
  refine lv_aload_n hx hb d_AL_fastRemove_10 rfl (lv_at hl 0 rfl) ?_
  refine fh_get hx hb hG C_AL iG_AL hown hK hP k_4 1 (by decide) gm52 rfl d_AL_fastRemove_11 ?_
  refine lv_iconst (v := 1) hx hb d_AL_fastRemove_14 (by decide) ?_
  refine lv_isub hx hb d_AL_fastRemove_15 ?_
  refine W.eq (g2 := F0 m 16 ls [.int (nI (xs.length - 1))]) (by rw [li_pred (by omega)]) ?_
  refine lv_dup hx hb d_AL_fastRemove_16 rfl ?_
  refine lv_istore_n (lv' := [(3, .int (nI (xs.length - 1))), (0, .ref al), (1, .ref arr), (2, .int (nI i))]) hx hb d_AL_fastRemove_17 rfl hl (by decide) rfl (fun ls hl => ?_)
  refine lv_iload_n hx hb d_AL_fastRemove_18 rfl (lv_at hl 3 rfl) ?_
  refine lv_icmp_le (tgt := 34) hx hb d_AL_fastRemove_19 (by decide) (fun c_5 => ?_) (fun c_5 => ?_)
  · skip
    refine lv_aload_n hx hb d_AL_fastRemove_34 rfl (lv_at hl 2 rfl) ?_
    refine lv_aload_n hx hb d_AL_fastRemove_35 rfl (lv_at hl 1 rfl) ?_
    refine lv_iload_n hx hb d_AL_fastRemove_36 rfl (lv_at hl 0 rfl) ?_
    refine lv_dup_x1 hx hb d_AL_fastRemove_37 rfl rfl ?_
    refine fh_put hx hb hG C_AL iG_AL hown hK hP hS k_4 1 (by decide) gm52 rfl (v := .int (nI (xs.length - 1))) rfl rfl (Nat.le_of_ble_eq_true rfl) d_AL_fastRemove_38 (fun H locs hP hS => ?_)
    obtain ⟨h_6, eh_7⟩ : ∃ z : fh_H, z = va_up h_1 al (some (.inr (0, [.ref arr, .int (nI (xs.length - 1)), .int (md + 1)]))) := ⟨_, rfl⟩
    have hP : fh_P E.1 vwCl A h_6 H := by rw [eh_7]; exact hP
    have k_8 : h_6 arr = some (.inl (fh_cO E, cap, .inr (.inr (.inr (.inr f))))) := by rw [eh_7]; exact fh_up k_3 (fh_neA k_3 k_4)
    have k_9 : h_6 al = some (.inr (0, [.ref arr, .int (nI (xs.length - 1)), .int (md + 1)])) := by rw [eh_7]; exact va_up_self _ _ _
    refine lv_null hx hb d_AL_fastRemove_41 ?_
    refine fh_astqN hx hb hK hP hS 2 k_8 rfl (vp_in_nI (by omega) (by omega)) d_AL_fastRemove_42 (fun H locs hP hS => ?_)
    rw [nI_clamp (by omega)] at hP
    obtain ⟨h_10, eh_11⟩ : ∃ z : fh_H, z = va_up h_6 arr (some (.inl (fh_cO E, cap, .inr (.inr (.inr (.inr (va_up (f) (xs.length - 1) none))))))) := ⟨_, rfl⟩
    have hP : fh_P E.1 vwCl A h_10 H := by rw [eh_11]; exact hP
    have k_12 : h_10 al = some (.inr (0, [.ref arr, .int (nI (xs.length - 1)), .int (md + 1)])) := by rw [eh_11]; exact fh_up k_9 (Ne.symm (fh_neA k_8 k_9))
    have k_13 : h_10 arr = some (.inl (fh_cO E, cap, .inr (.inr (.inr (.inr (va_up (f) (xs.length - 1) none)))))) := by rw [eh_11]; exact va_up_self _ _ _
    refine fh_vret hx hb hr hlocks (Nat.le_of_ble_eq_true rfl) (Nat.le_of_ble_eq_true rfl) hP hS ⟨rfl, LI.erase (F := f) hi hlen hcap h2 (li_er0 hf ((nI_leI (by omega) (by omega)).mp c_5)) k_12 k_13, fun b z1 z2 => ?_⟩ d_AL_fastRemove_43
    rw [eh_11, va_up_ne _ _ z2, eh_7, va_up_ne _ _ z1, eh_2, va_up_ne _ _ z1]
  · skip
    have hlt : i < xs.length - 1 := by
      rcases Nat.lt_or_ge i (xs.length - 1) with z | z
      · exact z
      · exact absurd ((nI_leI (by omega) (by omega)).mpr z) c_5
    refine lv_aload_n hx hb d_AL_fastRemove_22 rfl (lv_at hl 2 rfl) ?_
    refine lv_iload_n hx hb d_AL_fastRemove_23 rfl (lv_at hl 3 rfl) ?_
    refine lv_iconst (v := 1) hx hb d_AL_fastRemove_24 (by decide) ?_
    refine lv_iadd hx hb d_AL_fastRemove_25 ?_
    refine W.eq (g2 := F0 m 26 ls [.int (nI (i + 1)), .ref arr]) (by rw [nI_1]) ?_
    refine lv_aload_n hx hb d_AL_fastRemove_26 rfl (lv_at hl 2 rfl) ?_
    refine lv_iload_n hx hb d_AL_fastRemove_27 rfl (lv_at hl 3 rfl) ?_
    refine lv_iload_n hx hb d_AL_fastRemove_28 rfl (lv_at hl 0 rfl) ?_
    refine lv_iload_n hx hb d_AL_fastRemove_29 rfl (lv_at hl 3 rfl) ?_
    refine lv_isub hx hb d_AL_fastRemove_30 ?_
    refine W.eq (g2 := F0 m 31 ls [.int (nI (xs.length - 1 - i)), .int (nI i), .ref arr, .int (nI (i + 1)), .ref arr]) (by rw [pk_sub (by omega)]) ?_
    refine fh_copyM hx hb (hml.trans hl.1.symm) hown (hG _ gm237) (hG _ gm239) (hG _ gm238) (hG _ gm16) hK hP hS 2 2 k_3 k_3 rfl rfl (nI_pos (by omega)) (nI_pos (by omega)) (nI_pos (by omega)) (by rw [nI_clamp (by omega), nI_clamp (by omega)]; omega) (by rw [nI_clamp (by omega), nI_clamp (by omega)]; omega) (fun j hj y hy => ?_) (Nat.le_of_ble_eq_true rfl) (Nat.le_of_ble_eq_true rfl) d_AL_fastRemove_31 (fun H locs hP hS => ?_)
    · rw [nI_clamp (by omega)] at hy hj
      rw [hf _ (by omega)] at hy
      exact EO.any hZ hK hP ((hE y (List.mem_of_getElem? hy)).upO (fun z => by rw [eh_2, va_up_ne _ _ z]) ha)
    rw [nI_clamp (by omega), nI_clamp (by omega), nI_clamp (by omega)] at hP
    obtain ⟨h_14, eh_15⟩ : ∃ z : fh_H, z = va_up h_1 arr (some (.inl (fh_cO E, cap, .inr (.inr (.inr (.inr (va_cpy f f (i + 1) i (xs.length - 1 - i)))))))) := ⟨_, rfl⟩
    have hP : fh_P E.1 vwCl A h_14 H := by rw [eh_15]; exact hP
    have k_16 : h_14 al = some (.inr (0, [.ref arr, .int (nI xs.length), .int (md + 1)])) := by rw [eh_15]; exact fh_up k_4 (Ne.symm (fh_neA k_3 k_4))
    have k_17 : h_14 arr = some (.inl (fh_cO E, cap, .inr (.inr (.inr (.inr (va_cpy f f (i + 1) i (xs.length - 1 - i))))))) := by rw [eh_15]; exact va_up_self _ _ _
    refine lv_aload_n hx hb d_AL_fastRemove_34 rfl (lv_at hl 2 rfl) ?_
    refine lv_aload_n hx hb d_AL_fastRemove_35 rfl (lv_at hl 1 rfl) ?_
    refine lv_iload_n hx hb d_AL_fastRemove_36 rfl (lv_at hl 0 rfl) ?_
    refine lv_dup_x1 hx hb d_AL_fastRemove_37 rfl rfl ?_
    refine fh_put hx hb hG C_AL iG_AL hown hK hP hS k_16 1 (by decide) gm52 rfl (v := .int (nI (xs.length - 1))) rfl rfl (Nat.le_of_ble_eq_true rfl) d_AL_fastRemove_38 (fun H locs hP hS => ?_)
    obtain ⟨h_18, eh_19⟩ : ∃ z : fh_H, z = va_up h_14 al (some (.inr (0, [.ref arr, .int (nI (xs.length - 1)), .int (md + 1)]))) := ⟨_, rfl⟩
    have hP : fh_P E.1 vwCl A h_18 H := by rw [eh_19]; exact hP
    have k_20 : h_18 arr = some (.inl (fh_cO E, cap, .inr (.inr (.inr (.inr (va_cpy f f (i + 1) i (xs.length - 1 - i))))))) := by rw [eh_19]; exact fh_up k_17 (fh_neA k_17 k_16)
    have k_21 : h_18 al = some (.inr (0, [.ref arr, .int (nI (xs.length - 1)), .int (md + 1)])) := by rw [eh_19]; exact va_up_self _ _ _
    refine lv_null hx hb d_AL_fastRemove_41 ?_
    refine fh_astqN hx hb hK hP hS 2 k_20 rfl (vp_in_nI (by omega) (by omega)) d_AL_fastRemove_42 (fun H locs hP hS => ?_)
    rw [nI_clamp (by omega)] at hP
    obtain ⟨h_22, eh_23⟩ : ∃ z : fh_H, z = va_up h_18 arr (some (.inl (fh_cO E, cap, .inr (.inr (.inr (.inr (va_up (va_cpy f f (i + 1) i (xs.length - 1 - i)) (xs.length - 1) none))))))) := ⟨_, rfl⟩
    have hP : fh_P E.1 vwCl A h_22 H := by rw [eh_23]; exact hP
    have k_24 : h_22 al = some (.inr (0, [.ref arr, .int (nI (xs.length - 1)), .int (md + 1)])) := by rw [eh_23]; exact fh_up k_21 (Ne.symm (fh_neA k_20 k_21))
    have k_25 : h_22 arr = some (.inl (fh_cO E, cap, .inr (.inr (.inr (.inr (va_up (va_cpy f f (i + 1) i (xs.length - 1 - i)) (xs.length - 1) none)))))) := by rw [eh_23]; exact va_up_self _ _ _
    refine fh_vret hx hb hr hlocks (Nat.le_of_ble_eq_true rfl) (Nat.le_of_ble_eq_true rfl) hP hS ⟨rfl, LI.erase (F := va_cpy f f (i + 1) i (xs.length - 1 - i)) hi hlen hcap h2 (li_er hf hi) k_24 k_25, fun b z1 z2 => ?_⟩ d_AL_fastRemove_43
    rw [eh_23, va_up_ne _ _ z2, eh_19, va_up_ne _ _ z1, eh_15, va_up_ne _ _ z2, eh_2, va_up_ne _ _ z1]

set_option maxHeartbeats 4000000 in
set_option maxRecDepth 100000 in
theorem c_AL_remove (l : Launch) (E : fh_E) (h : fh_H) (al arr : Nat) (xs : List Nat) (i q : Nat) (hL : LI E h al arr xs) (hq : xs[i]? = some q) (hE : ∀ x ∈ xs, EO h x) : fh_Met l y_AL_remove w_AL_remove ({ frames := 2, cells := 0, slots := 0, locals := 83 }) E [.ref al, .int (nI i)] h (fun r h1 => r = some (.ref q) ∧ LI E h1 al arr (xs.eraseIdx i) ∧ ∀ b, b ≠ al → b ≠ arr → h1 b = h b) 0 0 := by
  refine fh_ofW (cc := b_AL_remove) (maxL := 4) (ret := (some (.object "java/lang/Object"))) (by decide) rfl (Nat.le_of_ble_eq_true rfl) ?_
  intro p e s m below meth c A ls hx hb hr hml hown hts hlocks hname hnoh hadm hA hK hZ hP hS hl
  have hG : ∀ w ∈ G, w.before _ s = true := fun w hw => hts w (List.mem_cons_of_mem _ hw)
  have hown : s.vm.findClass R_AL = some m.cls := hown
  have hl : lv_has ls 4 [(0, .ref al), (1, .int (nI i))] := hl
  have hL0 := hL
  obtain ⟨md, cap, f, ha, hlen, hcap, hf, hr0⟩ := hL
  have hi : i < xs.length := (List.getElem?_eq_some_iff.mp hq).1
  have hr0 : h arr = some (.inl (fh_cO E, cap, .inr (.inr (.inr (.inr f))))) := (hr0.resolve_left (fun z => by omega)).2
  refine lv_iload_n hx hb d_AL_remove_0 rfl (lv_at hl 1 rfl) ?_
  refine lv_aload_n hx hb d_AL_remove_1 rfl (lv_at hl 0 rfl) ?_
  refine fh_get hx hb hG C_AL iG_AL hown hK hP ha 1 (by decide) gm52 rfl d_AL_remove_2 ?_
  refine fh_callS (y := y_OB_checkIndex) (bytes := b_OB_checkIndex) (maxL := 2) (ret := (some .int)) (index := 118) (As := [.int (nI i), .int (nI xs.length)]) (rest := []) ⟨hx, hb, hml, hown, hG⟩ (c_OB_checkIndex l E h i xs.length hi (by omega)) ⟨callB_of 2 hG (gB gm190) rfl rfl rfl (hG _ gm14) (hG _ gm188) hdy_OB_checkIndex ⟨Nat.le_of_ble_eq_true rfl, Nat.le_of_ble_eq_true rfl⟩, hG _ gm189⟩ hK hZ hP hS hA rfl hl.1 rfl (Nat.le_of_ble_eq_true rfl) d_AL_remove_5 ⟨Nat.le_of_ble_eq_true rfl, Nat.le_of_ble_eq_true rfl⟩ (fun r h1 H locs hq9 hP hS => ?_)
  obtain ⟨rfl, e9⟩ := hq9
  rw [e9] at hP
  refine W.eq (g2 := F0 m 8 ls [.int (nI i)]) rfl ?_
  refine lv_pop hx hb d_AL_remove_8 rfl ?_
  refine lv_aload_n hx hb d_AL_remove_9 rfl (lv_at hl 0 rfl) ?_
  refine fh_get hx hb hG C_AL iG_AL hown hK hP ha 0 (by decide) gm51 rfl d_AL_remove_10 ?_
  refine lv_astore_n (lv' := [(2, .ref arr), (0, .ref al), (1, .int (nI i))]) hx hb d_AL_remove_13 rfl hl (by decide) rfl (fun ls hl => ?_)
  refine lv_aload_n hx hb d_AL_remove_14 rfl (lv_at hl 0 rfl) ?_
  refine lv_iload_n hx hb d_AL_remove_15 rfl (lv_at hl 2 rfl) ?_
  refine fh_aldq hx hb hK hP 2 hr0 rfl (vp_in_nI (by omega) (by omega)) d_AL_remove_16 ?_
  refine W.eq (g2 := F0 m 17 ls [.ref q]) (by rw [nI_clamp (by omega), hf i hi, hq]; rfl) ?_
  refine lv_astore_n (lv' := [(3, .ref q), (2, .ref arr), (0, .ref al), (1, .int (nI i))]) hx hb d_AL_remove_17 rfl hl (by decide) rfl (fun ls hl => ?_)
  refine lv_aload_n hx hb d_AL_remove_18 rfl (lv_at hl 2 rfl) ?_
  refine lv_aload_n hx hb d_AL_remove_19 rfl (lv_at hl 1 rfl) ?_
  refine lv_iload_n hx hb d_AL_remove_20 rfl (lv_at hl 3 rfl) ?_
  refine fh_callV (C := R_AL) (y := y_AL_fastRemove) (bytes := b_AL_fastRemove) (maxL := 4) (ret := none) (index := 144) (As := [.ref arr, .int (nI i)]) (rest := []) ⟨hx, hb, hml, hown, hG⟩ (c_AL_fastRemove l E h al arr xs i hL0 hi hE) (cwV 2 hG (gV gm233 gm235 gs_AL_fastRemove gm5 gm236) rfl rfl rfl ⟨rfl, hdy_AL_fastRemove⟩ ⟨Nat.le_of_ble_eq_true rfl, Nat.le_of_ble_eq_true rfl⟩) C_AL.1 ha hK hZ hP hS hA rfl hl.1 rfl (Nat.le_of_ble_eq_true rfl) d_AL_remove_21 ⟨Nat.le_of_ble_eq_true rfl, Nat.le_of_ble_eq_true rfl⟩ (fun r h1 H locs hq9 hP hS => ?_)
  obtain ⟨rfl, g1, g2⟩ := hq9
  refine W.eq (g2 := F0 m 24 ls []) rfl ?_
  refine lv_aload_n hx hb d_AL_remove_24 rfl (lv_at hl 0 rfl) ?_
  exact fh_aret hx hb hr (Or.inl ⟨_, rfl⟩) (Or.inr ⟨_, rfl⟩) hlocks (Nat.le_of_ble_eq_true rfl) (Nat.le_of_ble_eq_true rfl) hP hS ⟨rfl, g1, g2⟩ d_AL_remove_25

set_option maxHeartbeats 4000000 in
set_option maxRecDepth 100000 in
theorem c_AL_clear (l : Launch) (E : fh_E) (h : fh_H) (al arr : Nat) (xs : List Nat) (hL : LI E h al arr xs) : fh_Met l y_AL_clear w_AL_clear ({ frames := 0, cells := 0, slots := 0, locals := 0 }) E [.ref al] h (fun r h1 => r = none ∧ LI E h1 al arr [] ∧ ∀ b, b ≠ al → b ≠ arr → h1 b = h b) 0 0 := by
  refine fh_ofW (cc := b_AL_clear) (maxL := 4) (ret := none) (by decide) rfl (Nat.le_of_ble_eq_true rfl) ?_
  intro p e s m below meth c A ls hx hb hr hml hown hts hlocks hname hnoh hadm hA hK hZ hP hS hl
  have hG : ∀ w ∈ G, w.before _ s = true := fun w hw => hts w (List.mem_cons_of_mem _ hw)
  have hown : s.vm.findClass R_AL = some m.cls := hown
  have hl : lv_has ls 4 [(0, .ref al)] := hl
  obtain ⟨md, cap, f, ha, hlen, hcap, hf, hr0⟩ := hL
  refine lv_aload_n hx hb d_AL_clear_0 rfl (lv_at hl 0 rfl) ?_
  refine lv_dup hx hb d_AL_clear_1 rfl ?_
  refine fh_getS (ref := "java/util/ArrayList") hx hb hG C_AL iG_AL hown hK hP ha 2 (by decide) gm54 (u_same (hG _ gm55)) rfl d_AL_clear_2 ?_
  refine lv_iconst (v := 1) hx hb d_AL_clear_5 (by decide) ?_
  refine lv_iadd hx hb d_AL_clear_6 ?_
  refine fh_putS (ref := "java/util/ArrayList") hx hb hG C_AL iG_AL hown hK hP hS ha 2 (by decide) gm54 (u_same (hG _ gm55)) rfl (v := .int (md + 1)) rfl rfl (Nat.le_of_ble_eq_true rfl) d_AL_clear_7 (fun H locs hP hS => ?_)
  obtain ⟨h_1, eh_2⟩ : ∃ z : fh_H, z = va_up h al (some (.inr (0, [.ref arr, .int (nI xs.length), .int (md + 1)]))) := ⟨_, rfl⟩
  have hP : fh_P E.1 vwCl A h_1 H := by rw [eh_2]; exact hP
  have k_3 : h_1 al = some (.inr (0, [.ref arr, .int (nI xs.length), .int (md + 1)])) := by rw [eh_2]; exact va_up_self _ _ _
  refine lv_aload_n hx hb d_AL_clear_10 rfl (lv_at hl 0 rfl) ?_
  refine fh_get hx hb hG C_AL iG_AL hown hK hP k_3 0 (by decide) gm51 rfl d_AL_clear_11 ?_
  refine lv_astore_n (lv' := [(1, .ref arr), (0, .ref al)]) hx hb d_AL_clear_14 rfl hl (by decide) rfl (fun ls hl => ?_)
  refine lv_aload_n hx hb d_AL_clear_15 rfl (lv_at hl 1 rfl) ?_
  refine fh_get hx hb hG C_AL iG_AL hown hK hP k_3 1 (by decide) gm52 rfl d_AL_clear_16 ?_
  refine lv_istore_n (lv' := [(2, .int (nI xs.length)), (1, .ref arr), (0, .ref al)]) hx hb d_AL_clear_19 rfl hl (by decide) rfl (fun ls hl => ?_)
  refine lv_aload_n hx hb d_AL_clear_20 rfl (lv_at hl 2 rfl) ?_
  refine lv_iconst (v := 0) hx hb d_AL_clear_21 (by decide) ?_
  refine lv_dup_x1 hx hb d_AL_clear_22 rfl rfl ?_
  refine fh_put hx hb hG C_AL iG_AL hown hK hP hS k_3 1 (by decide) gm52 rfl (v := .int 0) rfl rfl (Nat.le_of_ble_eq_true rfl) d_AL_clear_23 (fun H locs hP hS => ?_)
  obtain ⟨h_4, eh_5⟩ : ∃ z : fh_H, z = va_up h_1 al (some (.inr (0, [.ref arr, .int 0, .int (md + 1)]))) := ⟨_, rfl⟩
  have hP : fh_P E.1 vwCl A h_4 H := by rw [eh_5]; exact hP
  have k_6 : h_4 al = some (.inr (0, [.ref arr, .int 0, .int (md + 1)])) := by rw [eh_5]; exact va_up_self _ _ _
  refine lv_istore_n (lv' := [(3, .int 0), (2, .int (nI xs.length)), (1, .ref arr), (0, .ref al)]) hx hb d_AL_clear_26 rfl hl (by decide) rfl (fun ls hl => ?_)
  have g0 : ∀ b, b ≠ al → b ≠ arr → h_4 b = h b := fun b z1 z2 => by rw [eh_5, va_up_ne _ _ z1, eh_2, va_up_ne _ _ z1]
  have g1 : ((arr = fh_ed E ∧ cap = 0) ∨ 2 ≤ cap ∧ h_4 arr = some (.inl (fh_cO E, cap, .inr (.inr (.inr (.inr f)))))) := by
    rcases hr0 with hr0 | ⟨h2, hr0⟩
    · exact Or.inl hr0
    · exact Or.inr ⟨h2, by rw [eh_5]; exact fh_up (by rw [eh_2]; exact fh_up hr0 (fh_neA hr0 ha)) (fh_neA hr0 ha)⟩
  have e0 : (0 : Int32) = nI 0 := nI_0.symm
  rw [e0] at hl k_6
  have loop : ∀ (n i : Nat) (F : Nat → Option Nat) (hw : fh_H) (H : Heap) (locs : List Loc) (ls : Array Slot), i + n = xs.length → lv_has ls 4 [(3, .int (nI i)), (2, .int (nI xs.length)), (1, .ref arr), (0, .ref al)] → hw al = some (.inr (0, [.ref arr, .int (nI 0), .int (md + 1)])) → (∀ b, b ≠ al → b ≠ arr → hw b = h b) → ((arr = fh_ed E ∧ cap = 0) ∨ 2 ≤ cap ∧ hw arr = some (.inl (fh_cO E, cap, .inr (.inr (.inr (.inr F)))))) → fh_P E.1 vwCl A hw H → va_S A s.heap H locs → W p l e ({ frames := 0, cells := 0, slots := 0, locals := 0 }) s m ([.ref al] : List Value).toArray below meth c H locs 0 0 (MQ below (fh_Post E (fun r h1 => r = none ∧ LI E h1 al arr [] ∧ ∀ b, b ≠ al → b ≠ arr → h1 b = h b) A) ([.ref al] : List Value).toArray s 0 0 A) (F0 m 27 ls []) := by
    intro n
    induction n with
    | zero =>
      intro i F hw H locs ls hin hl k1 k2 k3 hP hS
      refine lv_iload_n hx hb d_AL_clear_27 rfl (lv_at hl 0 rfl) ?_
      refine lv_iload_n hx hb d_AL_clear_28 rfl (lv_at hl 1 rfl) ?_
      refine lv_icmp_ge (tgt := 42) hx hb d_AL_clear_29 (by decide) (fun c_7 => ?_) (fun c_7 => ?_)
      · exact fh_vret hx hb hr hlocks (Nat.le_of_ble_eq_true rfl) (Nat.le_of_ble_eq_true rfl) hP hS ⟨rfl, LI.emp hcap k1 k3, k2⟩ d_AL_clear_42
      · exact absurd (nI_le (by omega) (by omega)) c_7
    | succ n ih =>
      intro i F hw H locs ls hin hl k1 k2 k3 hP hS
      refine lv_iload_n hx hb d_AL_clear_27 rfl (lv_at hl 0 rfl) ?_
      refine lv_iload_n hx hb d_AL_clear_28 rfl (lv_at hl 1 rfl) ?_
      refine lv_icmp_ge (tgt := 42) hx hb d_AL_clear_29 (by decide) (fun c_8 => ?_) (fun c_8 => ?_)
      · exact absurd ((nI_leI (by omega) (by omega)).mp c_8) (by omega)
      · have k4 := k3.resolve_left (fun z => by omega)
        refine lv_aload_n hx hb d_AL_clear_32 rfl (lv_at hl 2 rfl) ?_
        refine lv_iload_n hx hb d_AL_clear_33 rfl (lv_at hl 0 rfl) ?_
        refine lv_null hx hb d_AL_clear_34 ?_
        refine fh_astqN hx hb hK hP hS 2 k4.2 rfl (vp_in_nI (by omega) (by omega)) d_AL_clear_35 (fun H locs hP hS => ?_)
        refine lv_iinc (v := ((nI i)) + 1) (lv' := [(3, .int (((nI i)) + 1)), (2, .int (nI xs.length)), (1, .ref arr), (0, .ref al)]) hx hb d_AL_clear_36 hl (k := 0) rfl rfl (by decide) rfl (fun ls hl => ?_)
        refine lv_goto (tgt := 27) hx hb d_AL_clear_39 (by decide) ?_
        exact ih (i + 1) _ _ _ _ _ (by omega) (by rw [← nI_1]; exact lv_sub hl [0, 1, 2, 3] rfl) (fh_up k1 (Ne.symm (fh_neA k4.2 k1))) (fun b z1 z2 => (va_up_ne _ _ z2).trans (k2 b z1 z2)) (Or.inr ⟨k4.1, va_up_self _ _ _⟩) hP hS
  exact loop xs.length 0 f _ _ _ _ (by omega) (lv_sub hl [0, 1, 2, 3] rfl) k_6 g0 g1 hP hS

set_option maxHeartbeats 4000000 in
set_option maxRecDepth 100000 in
theorem c_AC_init (l : Launch) (E : fh_E) (h : fh_H) (al : Nat) : fh_Met l y_AC_init w_AC_init ({ frames := 1, cells := 0, slots := 0, locals := 12 }) E [.ref al] h (fun r h1 => r = none ∧ h1 = h) 0 0 := by
  refine fh_ofW (cc := b_AC_init) (maxL := 1) (ret := none) (by decide) rfl (Nat.le_of_ble_eq_true rfl) ?_
  intro p e s m below meth c A ls hx hb hr hml hown hts hlocks hname hnoh hadm hA hK hZ hP hS hl
  have hG : ∀ w ∈ G, w.before _ s = true := fun w hw => hts w (List.mem_cons_of_mem _ hw)
  have hown : s.vm.findClass R_AC = some m.cls := hown
  have hl : lv_has ls 1 [(0, .ref al)] := hl
  refine lv_aload_n hx hb d_AC_init_0 rfl (lv_at hl 0 rfl) ?_
  refine W.objInit hx hb hown (hG _ gm48) (hG _ gm29) (hG _ gm30) rfl (by rw [hml]; exact hl.1) rfl d_AC_init_1 (Nat.le_of_ble_eq_true rfl) (Nat.le_of_ble_eq_true rfl) ?_
  refine W.eq (g2 := F0 m 4 ls []) rfl ?_
  exact fh_vret hx hb hr hlocks (Nat.le_of_ble_eq_true rfl) (Nat.le_of_ble_eq_true rfl) hP hS ⟨rfl, rfl⟩ d_AC_init_4

set_option maxHeartbeats 4000000 in
set_option maxRecDepth 100000 in
theorem c_AB_init (l : Launch) (E : fh_E) (h : fh_H) (al : Nat) (v0 v1 v2 : Value) (ha : h al = some (.inr (0, [v0, v1, v2]))) : fh_Met l y_AB_init w_AB_init ({ frames := 2, cells := 0, slots := 0, locals := 32 }) E [.ref al] h (fun r h1 => r = none ∧ h1 = va_up h al (some (.inr (0, [v0, v1, .int 0])))) 0 0 := by
  refine fh_ofW (cc := b_AB_init) (maxL := 1) (ret := none) (by decide) rfl (Nat.le_of_ble_eq_true rfl) ?_
  intro p e s m below meth c A ls hx hb hr hml hown hts hlocks hname hnoh hadm hA hK hZ hP hS hl
  have hG : ∀ w ∈ G, w.before _ s = true := fun w hw => hts w (List.mem_cons_of_mem _ hw)
  have hown : s.vm.findClass R_AB = some m.cls := hown
  have hl : lv_has ls 1 [(0, .ref al)] := hl
  refine lv_aload_n hx hb d_AB_init_0 rfl (lv_at hl 0 rfl) ?_
  refine fh_callI (b := al) (y := y_AC_init) (bytes := b_AC_init) (maxL := 1) (index := 1) (As := []) (rest := []) ⟨hx, hb, hml, hown, hG⟩ (c_AC_init l E h al) (cwI 0 hG (gB gm47) rfl rfl rfl (hG _ gm3) (hG _ gm45) (hG _ gm46) rfl hdy_AC_init ⟨Nat.le_of_ble_eq_true rfl, Nat.le_of_ble_eq_true rfl⟩) hK hZ hP hS hA rfl hl.1 rfl (Nat.le_of_ble_eq_true rfl) d_AB_init_1 ⟨Nat.le_of_ble_eq_true rfl, Nat.le_of_ble_eq_true rfl⟩ (fun r h1 H locs hq9 hP hS => ?_)
  obtain ⟨rfl, e9⟩ := hq9
  rw [e9] at hP
  refine W.eq (g2 := F0 m 4 ls []) rfl ?_
  refine lv_aload_n hx hb d_AB_init_4 rfl (lv_at hl 0 rfl) ?_
  refine lv_iconst (v := 0) hx hb d_AB_init_5 (by decide) ?_
  refine fh_put hx hb hG C_AL iG_AL hown hK hP hS ha 2 (by decide) gm53 rfl (v := .int 0) rfl rfl (Nat.le_of_ble_eq_true rfl) d_AB_init_6 (fun H locs hP hS => ?_)
  obtain ⟨h_1, eh_2⟩ : ∃ z : fh_H, z = va_up h al (some (.inr (0, [v0, v1, .int 0]))) := ⟨_, rfl⟩
  have hP : fh_P E.1 vwCl A h_1 H := by rw [eh_2]; exact hP
  have k_3 : h_1 al = some (.inr (0, [v0, v1, .int 0])) := by rw [eh_2]; exact va_up_self _ _ _
  exact fh_vret hx hb hr hlocks (Nat.le_of_ble_eq_true rfl) (Nat.le_of_ble_eq_true rfl) hP hS ⟨rfl, eh_2⟩ d_AB_init_9

set_option maxHeartbeats 4000000 in
set_option maxRecDepth 100000 in
theorem c_AL_init (l : Launch) (E : fh_E) (h : fh_H) (al : Nat) (v0 v2 : Value) (ha : h al = some (.inr (0, [v0, .int 0, v2]))) : fh_Met l y_AL_init w_AL_init ({ frames := 3, cells := 0, slots := 0, locals := 52 }) E [.ref al] h (fun r h1 => r = none ∧ LI E h1 al (fh_ed E) [] ∧ ∀ b, b ≠ al → h1 b = h b) 0 0 := by
  refine fh_ofW (cc := b_AL_init) (maxL := 1) (ret := none) (by decide) rfl (Nat.le_of_ble_eq_true rfl) ?_
  intro p e s m below meth c A ls hx hb hr hml hown hts hlocks hname hnoh hadm hA hK hZ hP hS hl
  have hG : ∀ w ∈ G, w.before _ s = true := fun w hw => hts w (List.mem_cons_of_mem _ hw)
  have hown : s.vm.findClass R_AL = some m.cls := hown
  have hl : lv_has ls 1 [(0, .ref al)] := hl
  refine lv_aload_n hx hb d_AL_init_0 rfl (lv_at hl 0 rfl) ?_
  refine fh_callI (b := al) (y := y_AB_init) (bytes := b_AB_init) (maxL := 1) (index := 1) (As := []) (rest := []) ⟨hx, hb, hml, hown, hG⟩ (c_AB_init l E h al v0 (.int 0) v2 ha) (cwI 0 hG (gB gm44) rfl rfl rfl (hG _ gm4) (hG _ gm42) (hG _ gm43) rfl hdy_AB_init ⟨Nat.le_of_ble_eq_true rfl, Nat.le_of_ble_eq_true rfl⟩) hK hZ hP hS hA rfl hl.1 rfl (Nat.le_of_ble_eq_true rfl) d_AL_init_1 ⟨Nat.le_of_ble_eq_true rfl, Nat.le_of_ble_eq_true rfl⟩ (fun r h1 H locs hq9 hP hS => ?_)
  obtain ⟨rfl, e9⟩ := hq9
  rw [e9] at hP
  refine W.eq (g2 := F0 m 4 ls []) rfl ?_
  obtain ⟨h_1, eh_2⟩ : ∃ z : fh_H, z = va_up h al (some (.inr (0, [v0, .int 0, .int 0]))) := ⟨_, rfl⟩
  have hP : fh_P E.1 vwCl A h_1 H := by rw [eh_2]; exact hP
  have k_3 : h_1 al = some (.inr (0, [v0, .int 0, .int 0])) := by rw [eh_2]; exact va_up_self _ _ _
  refine lv_aload_n hx hb d_AL_init_4 rfl (lv_at hl 0 rfl) ?_
  refine va_gets hx hb hZ.1 hS hown (hG _ gm49) (fun _ z => z) d_AL_init_5 ?_
  refine fh_put hx hb hG C_AL iG_AL hown hK hP hS k_3 0 (by decide) gm51 rfl (v := .ref (fh_ed E)) rfl rfl (Nat.le_of_ble_eq_true rfl) d_AL_init_8 (fun H locs hP hS => ?_)
  obtain ⟨h_4, eh_5⟩ : ∃ z : fh_H, z = va_up h_1 al (some (.inr (0, [.ref (fh_ed E), .int 0, .int 0]))) := ⟨_, rfl⟩
  have hP : fh_P E.1 vwCl A h_4 H := by rw [eh_5]; exact hP
  have k_6 : h_4 al = some (.inr (0, [.ref (fh_ed E), .int 0, .int 0])) := by rw [eh_5]; exact va_up_self _ _ _
  exact fh_vret hx hb hr hlocks (Nat.le_of_ble_eq_true rfl) (Nat.le_of_ble_eq_true rfl) hP hS ⟨rfl, LI.emp (cap := 0) (F := fun _ => none) (by omega) (by rw [nI_0]; exact k_6) (Or.inl ⟨rfl, rfl⟩), fun b z => by rw [eh_5, va_up_ne _ _ z, eh_2, va_up_ne _ _ z]⟩ d_AL_init_11
