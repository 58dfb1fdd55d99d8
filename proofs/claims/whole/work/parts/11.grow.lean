/-! THE JDK's LIST: how it grows. -/
def EO (h : fh_H) (y : Nat) : Prop := (∃ fs, h y = some (.inr (1, fs))) ∨ ∃ fs, h y = some (.inr (3, fs))
theorem EO.up {h h1 : fh_H} {y q : Nat} (z : EO h y) (hu : y ≠ q → h1 y = h y) (hq : h q = none) : EO h1 y := by
  rcases z with ⟨fs, z⟩ | ⟨fs, z⟩
  · exact Or.inl ⟨fs, (hu (fh_neF z hq)).trans z⟩
  · exact Or.inr ⟨fs, (hu (fh_neF z hq)).trans z⟩
theorem EO.any {E : fh_E} {A B : Nat → Prop} {s : State} {H H0 : Heap} {h : fh_H} {y : Nat} (hZ : fh_Z E B s H0) (hK : va_K E.1 vwCl (fh_ty E) s) (hP : fh_P E.1 vwCl A h H) (z : EO h y) : va_Any "java/lang/Object" s H y := by
  rcases z with ⟨fs, z⟩ | ⟨fs, z⟩
  · exact fh_any hK hP C_CP.1 z (fhK hZ _ (by simp [fhCast]))
  · exact fh_any hK hP C_RQ.1 z (fhK hZ _ (by simp [fhCast]))
theorem li_cls {E : fh_E} {A : Nat → Prop} {s : State} {H : Heap} {h : fh_H} {a n : Nat} {f : Nat → Option Nat} (hK : va_K E.1 vwCl (fh_ty E) s) (hP : fh_P E.1 vwCl A h H) (ha : h a = some (.inl (fh_cO E, n, .inr (.inr (.inr (.inr f)))))) : ∃ cell : Cell, H[a]? = some cell ∧ cell.vm.isStatics = false ∧ s.vm.findClass fh_es = some cell.cls :=
  ⟨_, (hP.get ha).1, rfl, va_nmO (hK.2 2 (fh_cO E, .object "java/lang/Object") rfl).2 (by decide +kernel)⟩
theorem li_max (k : Nat) (hk : k ≤ 1000 := by omega) : (if nI 1 < nI k then nI k else nI 1) = nI (max 1 k) := by
  by_cases c : 1 < k
  · rw [if_pos (nI_lt c (by omega)), Nat.max_eq_right (by omega)]
  · rw [if_neg (nI_nlt (by omega) (by omega)), Nat.max_eq_left (by omega)]
theorem li_max10 {k : Nat} (hk : k ≤ 10) : (if (10 : Int32) < nI k then nI k else 10) = 10 := if_neg (show ¬ nI 10 < nI k from nI_nlt hk (by decide))
theorem li_min {a b : Nat} (h : a ≤ b) (hb : b < 2 ^ 31) : (if nI b < nI a then nI b else nI a) = nI a := if_neg (nI_nlt h hb)
theorem li_half {n : Nat} (h : n < 2 ^ 31) : nI n >>> ((1 : Int32) &&& 31) = nI (n / 2) := by
  have k := pk_shrN (n := n) h ((1 : Int32) &&& 31) 1 (by decide)
  rw [Nat.pow_one] at k
  exact k
theorem li_one {n : Nat} : nI (n + 1) - nI n = nI 1 := by
  have k := pk_sub (a := n + 1) (b := n) (by omega)
  rw [Nat.add_sub_cancel_left] at k
  exact k

set_option maxHeartbeats 4000000 in
set_option maxRecDepth 100000 in
theorem c_AS_newLength (l : Launch) (E : fh_E) (h : fh_H) (n k : Nat) (hn : 2 ≤ n) (hn2 : n ≤ 1000) (hk : k ≤ 1000) : fh_Met l y_AS_newLength w_AS_newLength ({ frames := 1, cells := 0, slots := 0, locals := 20 }) E [.int (nI n), .int (nI 1), .int (nI k)] h (fun r h1 => r = some (.int (nI (n + max 1 k))) ∧ h1 = h) 0 0 := by
  refine fh_ofW (cc := b_AS_newLength) (maxL := 4) (ret := (some .int)) (by decide) rfl (Nat.le_of_ble_eq_true rfl) ?_
  intro p e s m below meth c A ls hx hb hr hml hown hts hlocks hname hnoh hadm hA hK hZ hP hS hl
  have hG : ∀ w ∈ G, w.before _ s = true := fun w hw => hts w (List.mem_cons_of_mem _ hw)
  have hown : s.vm.findClass R_AS = some m.cls := hown
  have hl : lv_has ls 4 [(0, .int (nI n)), (1, .int (nI 1)), (2, .int (nI k))] := hl
  refine lv_iload_n hx hb d_AS_newLength_0 rfl (lv_at hl 0 rfl) ?_
  refine lv_iload_n hx hb d_AS_newLength_1 rfl (lv_at hl 1 rfl) ?_
  refine lv_iload_n hx hb d_AS_newLength_2 rfl (lv_at hl 2 rfl) ?_
  refine va_mmax hx hb (hml.trans hl.1.symm) hown (hG _ gm312) (hG _ gm313) (hG _ gm19) (hG _ gm314) (Nat.le_of_ble_eq_true rfl) (Nat.le_of_ble_eq_true rfl) (Nat.le_of_ble_eq_true rfl) (Nat.le_of_ble_eq_true rfl) d_AS_newLength_3 ?_
  refine W.eq (g2 := F0 m 6 ls [.int (nI (max 1 k)), .int (nI n)]) (by rw [li_max k (by omega)]) ?_
  refine lv_iadd hx hb d_AS_newLength_6 ?_
  refine W.eq (g2 := F0 m 7 ls [.int (nI (n + max 1 k))]) (by rw [nI_add]) ?_
  refine lv_istore_n (lv' := [(3, .int (nI (n + max 1 k))), (0, .int (nI n)), (1, .int (nI 1)), (2, .int (nI k))]) hx hb d_AS_newLength_7 rfl hl (by decide) rfl (fun ls hl => ?_)
  refine lv_iconst (v := 0) hx hb d_AS_newLength_8 (by decide) ?_
  refine lv_iload_n hx hb d_AS_newLength_9 rfl (lv_at hl 0 rfl) ?_
  refine lv_icmp_ge (tgt := 21) hx hb d_AS_newLength_10 (by decide) (fun c_1 => ?_) (fun c_1 => ?_)
  · skip
    exact absurd c_1 (nI_nle (by omega) (by omega))
  · skip
    refine lv_iload_n hx hb d_AS_newLength_13 rfl (lv_at hl 0 rfl) ?_
    refine lv_ldc (v := 2147483639) hx hb hown (hG _ gm315) d_AS_newLength_14 ?_
    refine lv_icmp_gt (tgt := 21) hx hb d_AS_newLength_16 (by decide) (fun c_2 => ?_) (fun c_2 => ?_)
    · skip
      exact absurd c_2 (show ¬ nI 2147483639 < nI _ from nI_nlt (by omega) (by decide))
    · skip
      refine lv_iload_n hx hb d_AS_newLength_19 rfl (lv_at hl 0 rfl) ?_
      exact fh_iret hx hb hr hlocks (Nat.le_of_ble_eq_true rfl) (Nat.le_of_ble_eq_true rfl) hP hS ⟨rfl, rfl⟩ d_AS_newLength_20

set_option maxHeartbeats 4000000 in
set_option maxRecDepth 100000 in
theorem c_AR_copyOf1 (l : Launch) (E : fh_E) (h : fh_H) (arr n0 n1 : Nat) (f : Nat → Option Nat) (hr0 : h arr = some (.inl (fh_cO E, n0, .inr (.inr (.inr (.inr f)))))) (h01 : n0 ≤ n1) (h73 : n1 ≤ 73) (hE : ∀ i, i < n0 → ∀ y, f i = some y → EO h y) : fh_Met l y_AR_copyOf1 w_AR_copyOf1 ({ frames := 1, cells := 1, slots := 73, locals := 60 }) E [.ref arr, .int (nI n1), .ref (fh_mi E)] h (fun r h1 => ∃ q, r = some (.ref q) ∧ h q = none ∧ h1 = va_up h q (some (.inl (fh_cO E, n1, .inr (.inr (.inr (.inr (va_cpy f (fun _ => none) 0 0 n0)))))))) 1 73 := by
  refine fh_ofW (cc := b_AR_copyOf1) (maxL := 4) (ret := (some (.array (.object "java/lang/Object")))) (by decide) rfl (Nat.le_of_ble_eq_true rfl) ?_
  intro p e s m below meth c A ls hx hb hr hml hown hts hlocks hname hnoh hadm hA hK hZ hP hS hl
  have hG : ∀ w ∈ G, w.before _ s = true := fun w hw => hts w (List.mem_cons_of_mem _ hw)
  have hown : s.vm.findClass R_AR = some m.cls := hown
  have hl : lv_has ls 4 [(0, .ref arr), (1, .int (nI n1)), (2, .ref (fh_mi E))] := hl
  refine lv_aload_n hx hb d_AR_copyOf1_0 rfl (lv_at hl 2 rfl) ?_
  refine va_ldcM hx hb hown (hG _ gm340) hZ.2.2.1 d_AR_copyOf1_1 ?_
  refine lv_acmp_ne (rx := some (fh_mi E)) (ry := some (fh_mi E)) (tgt := 13) hx hb d_AR_copyOf1_3 (by decide) (fun c_0 => absurd rfl c_0) (fun _ => ?_)
  refine lv_iload_n hx hb d_AR_copyOf1_6 rfl (lv_at hl 1 rfl) ?_
  refine fh_newq hx hb hown (hG _ gm342) hZ.2.2.2.1 hK hP hS hA 2 rfl (N' := n1) (nI_pos (by omega)) (nI_clamp (by omega)) (by omega) (Nat.le_of_ble_eq_true rfl) (by show 0 + n1 ≤ 73; omega) d_AR_copyOf1_7 (fun q H hf_1 hP hS => ?_)
  obtain ⟨h_2, eh_3⟩ : ∃ z : fh_H, z = va_up h q (some (.inl (fh_cO E, n1, .inr (.inr (.inr (.inr (fun _ => none))))))) := ⟨_, rfl⟩
  have hP : fh_P E.1 vwCl A h_2 H := by rw [eh_3]; exact hP
  have k_4 : h_2 arr = some (.inl (fh_cO E, n0, .inr (.inr (.inr (.inr f))))) := by rw [eh_3]; exact fh_up hr0 (fh_neF hr0 hf_1)
  have k_5 : h_2 q = some (.inl (fh_cO E, n1, .inr (.inr (.inr (.inr (fun _ => none)))))) := by rw [eh_3]; exact va_up_self _ _ _
  refine lv_goto (tgt := 24) hx hb d_AR_copyOf1_10 (by decide) ?_
  refine lv_astore_n (lv' := [(3, .ref q), (0, .ref arr), (1, .int (nI n1)), (2, .ref (fh_mi E))]) hx hb d_AR_copyOf1_24 rfl hl (by decide) rfl (fun ls hl => ?_)
  refine lv_aload_n hx hb d_AR_copyOf1_25 rfl (lv_at hl 1 rfl) ?_
  refine lv_iconst (v := 0) hx hb d_AR_copyOf1_26 (by decide) ?_
  refine lv_aload_n hx hb d_AR_copyOf1_27 rfl (lv_at hl 0 rfl) ?_
  refine lv_iconst (v := 0) hx hb d_AR_copyOf1_28 (by decide) ?_
  refine lv_aload_n hx hb d_AR_copyOf1_29 rfl (lv_at hl 1 rfl) ?_
  refine fh_alen hx hb hK hP 2 k_4 rfl rfl d_AR_copyOf1_30 ?_
  refine W.eq (g2 := F0 m 31 ls [.int (nI n0), .int 0, .ref q, .int 0, .ref arr]) (rfl) ?_
  refine lv_iload_n hx hb d_AR_copyOf1_31 rfl (lv_at hl 2 rfl) ?_
  refine va_mmin hx hb (hml.trans hl.1.symm) hown (hG _ gm343) (hG _ gm250) (hG _ gm19) (hG _ gm251) (Nat.le_of_ble_eq_true rfl) (Nat.le_of_ble_eq_true rfl) (by show 0 + 1 ≤ 1; omega) (by show 0 + n1 ≤ 73; omega) d_AR_copyOf1_32 ?_
  refine W.eq (g2 := F0 m 35 ls [.int (nI n0), .int 0, .ref q, .int 0, .ref arr]) (by rw [li_min (by omega) (by omega)]) ?_
  refine fh_copyM hx hb (hml.trans hl.1.symm) hown (hG _ gm344) (hG _ gm239) (hG _ gm238) (hG _ gm16) hK hP hS 2 2 k_4 k_5 rfl rfl (by decide) (by decide) (nI_pos (by omega)) (by rw [sb_cl0, nI_clamp (by omega)]; omega) (by rw [sb_cl0, nI_clamp (by omega)]; omega) (fun i hi y hy => ?_) (Nat.le_of_ble_eq_true rfl) (Nat.le_of_ble_eq_true rfl) d_AR_copyOf1_35 (fun H locs hP hS => ?_)
  · rw [sb_cl0, Nat.zero_add] at hy
    rw [nI_clamp (by omega)] at hi
    have z := hE i hi y hy
    exact EO.any hZ hK hP (z.up (fun hx9 => by rw [eh_3]; exact va_up_ne _ _ hx9) hf_1)
  rw [sb_cl0, nI_clamp (by omega)] at hP
  refine lv_aload_n hx hb d_AR_copyOf1_38 rfl (lv_at hl 0 rfl) ?_
  refine fh_aret hx hb hr (Or.inr ⟨_, rfl⟩) (Or.inr ⟨_, rfl⟩) hlocks (Nat.le_of_ble_eq_true rfl) (by show 0 + n1 ≤ 73; omega) hP hS ⟨q, rfl, hf_1, ?_⟩ d_AR_copyOf1_39
  rw [eh_3, bx_uu]

set_option maxHeartbeats 4000000 in
set_option maxRecDepth 100000 in
theorem c_AR_copyOf0 (l : Launch) (E : fh_E) (h : fh_H) (arr n0 n1 : Nat) (f : Nat → Option Nat) (hr0 : h arr = some (.inl (fh_cO E, n0, .inr (.inr (.inr (.inr f)))))) (h01 : n0 ≤ n1) (h73 : n1 ≤ 73) (hE : ∀ i, i < n0 → ∀ y, f i = some y → EO h y) : fh_Met l y_AR_copyOf0 w_AR_copyOf0 ({ frames := 2, cells := 1, slots := 73, locals := 83 }) E [.ref arr, .int (nI n1)] h (fun r h1 => ∃ q, r = some (.ref q) ∧ h q = none ∧ h1 = va_up h q (some (.inl (fh_cO E, n1, .inr (.inr (.inr (.inr (va_cpy f (fun _ => none) 0 0 n0)))))))) 1 73 := by
  refine fh_ofW (cc := b_AR_copyOf0) (maxL := 2) (ret := (some (.array (.object "java/lang/Object")))) (by decide) rfl (Nat.le_of_ble_eq_true rfl) ?_
  intro p e s m below meth c A ls hx hb hr hml hown hts hlocks hname hnoh hadm hA hK hZ hP hS hl
  have hG : ∀ w ∈ G, w.before _ s = true := fun w hw => hts w (List.mem_cons_of_mem _ hw)
  have hown : s.vm.findClass R_AR = some m.cls := hown
  have hl : lv_has ls 2 [(0, .ref arr), (1, .int (nI n1))] := hl
  refine lv_aload_n hx hb d_AR_copyOf0_0 rfl (lv_at hl 0 rfl) ?_
  refine lv_iload_n hx hb d_AR_copyOf0_1 rfl (lv_at hl 1 rfl) ?_
  refine lv_aload_n hx hb d_AR_copyOf0_2 rfl (lv_at hl 0 rfl) ?_
  refine va_getC (C := fh_es) hx hb (hml.trans hl.1.symm) hown (hG _ gm322) hZ.2.2.2.2.1.use (hG _ gm898) (hG _ gm323) (hG _ gm336) hZ.2.2.1 (li_cls hK hP hr0) (Nat.le_of_ble_eq_true rfl) (Nat.le_of_ble_eq_true rfl) d_AR_copyOf0_3 ?_
  refine fh_callS (y := y_AR_copyOf1) (bytes := b_AR_copyOf1) (maxL := 4) (ret := (some (.array (.object "java/lang/Object")))) (index := 300) (As := [.ref arr, .int (nI n1), .ref (fh_mi E)]) (rest := []) ⟨hx, hb, hml, hown, hG⟩ (c_AR_copyOf1 l E h arr n0 n1 f hr0 h01 h73 hE) ⟨callB_of 3 hG (gB gm339) rfl rfl rfl (hG _ gm20) (hG _ gm337) hdy_AR_copyOf1 ⟨Nat.le_of_ble_eq_true rfl, Nat.le_of_ble_eq_true rfl⟩, hG _ gm338⟩ hK hZ hP hS hA rfl hl.1 rfl (Nat.le_of_ble_eq_true rfl) d_AR_copyOf0_6 ⟨Nat.le_of_ble_eq_true rfl, Nat.le_of_ble_eq_true rfl⟩ (fun r h1 H locs hq9 hP hS => ?_)
  obtain ⟨q, rfl, hf1, e9⟩ := hq9
  refine W.eq (g2 := F0 m 9 ls [.ref q]) rfl ?_
  exact fh_aret hx hb hr (Or.inr ⟨_, rfl⟩) (Or.inr ⟨_, rfl⟩) hlocks (Nat.le_of_ble_eq_true rfl) (Nat.le_of_ble_eq_true rfl) hP hS ⟨q, rfl, hf1, e9⟩ d_AR_copyOf0_9

set_option maxHeartbeats 4000000 in
set_option maxRecDepth 100000 in
theorem c_AL_grow1_ed (l : Launch) (E : fh_E) (h : fh_H) (al : Nat) (sz md : Int32) (k : Nat) (hk : k ≤ 10) (ha : h al = some (.inr (0, [.ref (fh_ed E), .int sz, .int md]))) : fh_Met l y_AL_grow1 w_AL_grow1 ({ frames := 3, cells := 1, slots := 73, locals := 104 }) E [.ref al, .int (nI k)] h (fun r h1 => ∃ q, r = some (.ref q) ∧ h q = none ∧ h1 = va_up (va_up h q (some (.inl (fh_cO E, 10, .inr (.inr (.inr (.inr (fun _ => none)))))))) al (some (.inr (0, [.ref q, .int sz, .int md])))) 1 73 := by
  refine fh_ofW (cc := b_AL_grow1) (maxL := 4) (ret := (some (.array (.object "java/lang/Object")))) (by decide) rfl (Nat.le_of_ble_eq_true rfl) ?_
  intro p e s m below meth c A ls hx hb hr hml hown hts hlocks hname hnoh hadm hA hK hZ hP hS hl
  have hG : ∀ w ∈ G, w.before _ s = true := fun w hw => hts w (List.mem_cons_of_mem _ hw)
  have hown : s.vm.findClass R_AL = some m.cls := hown
  have hl : lv_has ls 4 [(0, .ref al), (1, .int (nI k))] := hl
  refine lv_aload_n hx hb d_AL_grow1_0 rfl (lv_at hl 0 rfl) ?_
  refine fh_get hx hb hG C_AL iG_AL hown hK hP ha 0 (by decide) gm51 rfl d_AL_grow1_1 ?_
  refine va_tlen hx hb hZ.2.1 hS (v := 0) rfl d_AL_grow1_4 ?_
  refine lv_istore_n (lv' := [(2, .int 0), (0, .ref al), (1, .int (nI k))]) hx hb d_AL_grow1_5 rfl hl (by decide) rfl (fun ls hl => ?_)
  refine lv_iload_n hx hb d_AL_grow1_6 rfl (lv_at hl 0 rfl) ?_
  refine lv_if_gt (tgt := 20) hx hb d_AL_grow1_7 (by decide) (fun c_1 => ?_) (fun c_1 => ?_)
  · skip
    exact absurd c_1 (by decide)
  · skip
    refine lv_aload_n hx hb d_AL_grow1_10 rfl (lv_at hl 1 rfl) ?_
    refine fh_get hx hb hG C_AL iG_AL hown hK hP ha 0 (by decide) gm51 rfl d_AL_grow1_11 ?_
    refine va_gets hx hb hZ.1 hS hown (hG _ gm49) (fun _ z => z) d_AL_grow1_14 ?_
    refine lv_acmp_eq (rx := some (fh_ed E)) (ry := some (fh_ed E)) (tgt := 45) hx hb d_AL_grow1_17 (by decide) (fun _ => ?_) (fun c_0 => absurd rfl c_0)
    refine lv_aload_n hx hb d_AL_grow1_45 rfl (lv_at hl 1 rfl) ?_
    refine lv_bipush (v := 10) hx hb d_AL_grow1_46 (by decide) ?_
    refine lv_iload_n hx hb d_AL_grow1_48 rfl (lv_at hl 2 rfl) ?_
    refine va_mmax hx hb (hml.trans hl.1.symm) hown (hG _ gm345) (hG _ gm313) (hG _ gm19) (hG _ gm314) (Nat.le_of_ble_eq_true rfl) (Nat.le_of_ble_eq_true rfl) (Nat.le_of_ble_eq_true rfl) (Nat.le_of_ble_eq_true rfl) d_AL_grow1_49 ?_
    refine W.eq (g2 := F0 m 52 ls [.int 10, .ref al]) (by rw [li_max10 hk]) ?_
    refine fh_newq hx hb hown (hG _ gm346) hZ.2.2.2.1 hK hP hS hA 2 rfl (N' := 10) (by decide) (by decide) (by decide) (Nat.le_of_ble_eq_true rfl) (Nat.le_of_ble_eq_true rfl) d_AL_grow1_52 (fun q H hf_2 hP hS => ?_)
    obtain ⟨h_3, eh_4⟩ : ∃ z : fh_H, z = va_up h q (some (.inl (fh_cO E, 10, .inr (.inr (.inr (.inr (fun _ => none))))))) := ⟨_, rfl⟩
    have hP : fh_P E.1 vwCl A h_3 H := by rw [eh_4]; exact hP
    have k_5 : h_3 al = some (.inr (0, [.ref (fh_ed E), .int sz, .int md])) := by rw [eh_4]; exact fh_up ha (fh_neF ha hf_2)
    have k_6 : h_3 q = some (.inl (fh_cO E, 10, .inr (.inr (.inr (.inr (fun _ => none)))))) := by rw [eh_4]; exact va_up_self _ _ _
    refine lv_dup_x1 hx hb d_AL_grow1_55 rfl rfl ?_
    refine fh_put hx hb hG C_AL iG_AL hown hK hP hS k_5 0 (by decide) gm51 rfl (v := .ref q) rfl rfl (Nat.le_of_ble_eq_true rfl) d_AL_grow1_56 (fun H locs hP hS => ?_)
    obtain ⟨h_7, eh_8⟩ : ∃ z : fh_H, z = va_up h_3 al (some (.inr (0, [.ref q, .int sz, .int md]))) := ⟨_, rfl⟩
    have hP : fh_P E.1 vwCl A h_7 H := by rw [eh_8]; exact hP
    have k_9 : h_7 q = some (.inl (fh_cO E, 10, .inr (.inr (.inr (.inr (fun _ => none)))))) := by rw [eh_8]; exact fh_up k_6 (fh_neA k_6 k_5)
    have k_10 : h_7 al = some (.inr (0, [.ref q, .int sz, .int md])) := by rw [eh_8]; exact va_up_self _ _ _
    refine fh_aret hx hb hr (Or.inr ⟨_, rfl⟩) (Or.inr ⟨_, rfl⟩) hlocks (Nat.le_of_ble_eq_true rfl) (Nat.le_of_ble_eq_true rfl) hP hS ⟨q, rfl, hf_2, ?_⟩ d_AL_grow1_59
    rw [eh_8, eh_4]

set_option maxHeartbeats 4000000 in
set_option maxRecDepth 100000 in
theorem c_AL_grow1_ar (l : Launch) (E : fh_E) (h : fh_H) (al arr cap : Nat) (f : Nat → Option Nat) (sz md : Int32) (h2 : 2 ≤ cap) (h48 : cap ≤ 48) (ha : h al = some (.inr (0, [.ref arr, .int sz, .int md]))) (hr0 : h arr = some (.inl (fh_cO E, cap, .inr (.inr (.inr (.inr f)))))) (hE : ∀ i, i < cap → ∀ y, f i = some y → EO h y) : fh_Met l y_AL_grow1 w_AL_grow1 ({ frames := 3, cells := 1, slots := 73, locals := 104 }) E [.ref al, .int (nI (cap + 1))] h (fun r h1 => ∃ q, r = some (.ref q) ∧ h q = none ∧ h1 = va_up (va_up h q (some (.inl (fh_cO E, cap + cap / 2, .inr (.inr (.inr (.inr (va_cpy f (fun _ => none) 0 0 cap)))))))) al (some (.inr (0, [.ref q, .int sz, .int md])))) 1 73 := by
  refine fh_ofW (cc := b_AL_grow1) (maxL := 4) (ret := (some (.array (.object "java/lang/Object")))) (by decide) rfl (Nat.le_of_ble_eq_true rfl) ?_
  intro p e s m below meth c A ls hx hb hr hml hown hts hlocks hname hnoh hadm hA hK hZ hP hS hl
  have hG : ∀ w ∈ G, w.before _ s = true := fun w hw => hts w (List.mem_cons_of_mem _ hw)
  have hown : s.vm.findClass R_AL = some m.cls := hown
  have hl : lv_has ls 4 [(0, .ref al), (1, .int (nI (cap + 1)))] := hl
  refine lv_aload_n hx hb d_AL_grow1_0 rfl (lv_at hl 0 rfl) ?_
  refine fh_get hx hb hG C_AL iG_AL hown hK hP ha 0 (by decide) gm51 rfl d_AL_grow1_1 ?_
  refine fh_alen hx hb hK hP 2 hr0 rfl rfl d_AL_grow1_4 ?_
  refine W.eq (g2 := F0 m 5 ls [.int (nI cap)]) (rfl) ?_
  refine lv_istore_n (lv' := [(2, .int (nI cap)), (0, .ref al), (1, .int (nI (cap + 1)))]) hx hb d_AL_grow1_5 rfl hl (by decide) rfl (fun ls hl => ?_)
  refine lv_iload_n hx hb d_AL_grow1_6 rfl (lv_at hl 0 rfl) ?_
  refine lv_if_gt (tgt := 20) hx hb d_AL_grow1_7 (by decide) (fun c_1 => ?_) (fun c_1 => ?_)
  · skip
    refine lv_iload_n hx hb d_AL_grow1_20 rfl (lv_at hl 0 rfl) ?_
    refine lv_iload_n hx hb d_AL_grow1_21 rfl (lv_at hl 2 rfl) ?_
    refine lv_iload_n hx hb d_AL_grow1_22 rfl (lv_at hl 0 rfl) ?_
    refine lv_isub hx hb d_AL_grow1_23 ?_
    refine lv_iload_n hx hb d_AL_grow1_24 rfl (lv_at hl 0 rfl) ?_
    refine lv_iconst (v := 1) hx hb d_AL_grow1_25 (by decide) ?_
    refine lv_ishr hx hb d_AL_grow1_26 ?_
    refine W.eq (g2 := F0 m 27 ls [.int (nI (cap / 2)), .int (nI 1), .int (nI cap)]) (by rw [li_half (by omega), li_one]) ?_
    refine fh_callS (y := y_AS_newLength) (bytes := b_AS_newLength) (maxL := 4) (ret := (some .int)) (index := 73) (As := [.int (nI cap), .int (nI 1), .int (nI (cap / 2))]) (rest := []) ⟨hx, hb, hml, hown, hG⟩ (c_AS_newLength l E h cap (cap / 2) h2 (by omega) (by omega)) ⟨callB_of 3 hG (gB gm311) rfl rfl rfl (hG _ gm18) (hG _ gm309) hdy_AS_newLength ⟨Nat.le_of_ble_eq_true rfl, Nat.le_of_ble_eq_true rfl⟩, hG _ gm310⟩ hK hZ hP hS hA rfl hl.1 rfl (Nat.le_of_ble_eq_true rfl) d_AL_grow1_27 ⟨Nat.le_of_ble_eq_true rfl, Nat.le_of_ble_eq_true rfl⟩ (fun r h1 H locs hq9 hP hS => ?_)
    obtain ⟨rfl, e9⟩ := hq9
    rw [e9] at hP
    refine W.eq (g2 := F0 m 30 ls [.int (nI (cap + max 1 (cap / 2)))]) rfl ?_
    refine W.eq (g2 := F0 m 30 ls [.int (nI (cap + cap / 2))]) (by rw [show max 1 (cap / 2) = cap / 2 by omega]) ?_
    refine lv_istore_n (lv' := [(3, .int (nI (cap + cap / 2))), (2, .int (nI cap)), (0, .ref al), (1, .int (nI (cap + 1)))]) hx hb d_AL_grow1_30 rfl hl (by decide) rfl (fun ls hl => ?_)
    refine lv_aload_n hx hb d_AL_grow1_31 rfl (lv_at hl 2 rfl) ?_
    refine lv_aload_n hx hb d_AL_grow1_32 rfl (lv_at hl 2 rfl) ?_
    refine fh_get hx hb hG C_AL iG_AL hown hK hP ha 0 (by decide) gm51 rfl d_AL_grow1_33 ?_
    refine lv_iload_n hx hb d_AL_grow1_36 rfl (lv_at hl 0 rfl) ?_
    refine fh_callS (y := y_AR_copyOf0) (bytes := b_AR_copyOf0) (maxL := 2) (ret := (some (.array (.object "java/lang/Object")))) (index := 66) (As := [.ref arr, .int (nI (cap + cap / 2))]) (rest := [.ref al]) ⟨hx, hb, hml, hown, hG⟩ (c_AR_copyOf0 l E h arr cap (cap + cap / 2) f hr0 (by omega) (by omega) hE) ⟨callB_of 2 hG (gB gm321) rfl rfl rfl (hG _ gm20) (hG _ gm319) hdy_AR_copyOf0 ⟨Nat.le_of_ble_eq_true rfl, Nat.le_of_ble_eq_true rfl⟩, hG _ gm320⟩ hK hZ hP hS hA rfl hl.1 rfl (Nat.le_of_ble_eq_true rfl) d_AL_grow1_37 ⟨Nat.le_of_ble_eq_true rfl, Nat.le_of_ble_eq_true rfl⟩ (fun r h1 H locs hq9 hP hS => ?_)
    obtain ⟨q, rfl, hf1, e9⟩ := hq9
    rw [e9] at hP
    refine W.eq (g2 := F0 m 40 ls [.ref q, .ref al]) rfl ?_
    obtain ⟨h_2, eh_3⟩ : ∃ z : fh_H, z = va_up h q (some (.inl (fh_cO E, cap + cap / 2, .inr (.inr (.inr (.inr (va_cpy f (fun _ => none) 0 0 cap))))))) := ⟨_, rfl⟩
    have hP : fh_P E.1 vwCl A h_2 H := by rw [eh_3]; exact hP
    have k_4 : h_2 al = some (.inr (0, [.ref arr, .int sz, .int md])) := by rw [eh_3]; exact fh_up ha (fh_neF ha hf1)
    have k_5 : h_2 arr = some (.inl (fh_cO E, cap, .inr (.inr (.inr (.inr f))))) := by rw [eh_3]; exact fh_up hr0 (fh_neF hr0 hf1)
    have k_6 : h_2 q = some (.inl (fh_cO E, cap + cap / 2, .inr (.inr (.inr (.inr (va_cpy f (fun _ => none) 0 0 cap)))))) := by rw [eh_3]; exact va_up_self _ _ _
    refine lv_dup_x1 hx hb d_AL_grow1_40 rfl rfl ?_
    refine fh_put hx hb hG C_AL iG_AL hown hK hP hS k_4 0 (by decide) gm51 rfl (v := .ref q) rfl rfl (Nat.le_of_ble_eq_true rfl) d_AL_grow1_41 (fun H locs hP hS => ?_)
    obtain ⟨h_7, eh_8⟩ : ∃ z : fh_H, z = va_up h_2 al (some (.inr (0, [.ref q, .int sz, .int md]))) := ⟨_, rfl⟩
    have hP : fh_P E.1 vwCl A h_7 H := by rw [eh_8]; exact hP
    have k_9 : h_7 arr = some (.inl (fh_cO E, cap, .inr (.inr (.inr (.inr f))))) := by rw [eh_8]; exact fh_up k_5 (fh_neA k_5 k_4)
    have k_10 : h_7 q = some (.inl (fh_cO E, cap + cap / 2, .inr (.inr (.inr (.inr (va_cpy f (fun _ => none) 0 0 cap)))))) := by rw [eh_8]; exact fh_up k_6 (fh_neA k_6 k_4)
    have k_11 : h_7 al = some (.inr (0, [.ref q, .int sz, .int md])) := by rw [eh_8]; exact va_up_self _ _ _
    refine fh_aret hx hb hr (Or.inr ⟨_, rfl⟩) (Or.inr ⟨_, rfl⟩) hlocks (Nat.le_of_ble_eq_true rfl) (Nat.le_of_ble_eq_true rfl) hP hS ⟨q, rfl, hf1, ?_⟩ d_AL_grow1_44
    rw [eh_8, eh_3]
  · skip
    exact absurd (show nI 0 < nI cap from nI_lt (by omega) (by omega)) c_1
