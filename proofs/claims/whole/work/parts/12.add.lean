/-! THE JDK's LIST: what it answers and how it changes. -/
section FHX
variable {p : Program} {l : Launch} {e : Env} {R : Room} {s : State} {m : MethodId} {args : Array Value} {below : List Frame} {meth : Method} {c : Code} {H : Heap} {locs : List Loc} {cells slots : Nat} {Q : State → Prop}
variable {cc : ByteArray} {pc : Nat} {ls : Array Slot} {rest : List Value} {D : va_G} {cl : List vw_C} {A : Nat → Prop} {a : Nat} {tys : List (ClassId × FieldType)} {h : fh_H} {H0 : Heap}
theorem fh_astqM (hexec : p.tables.exec = Jvm.exec) (hb : c.code = cc) (hK : va_K D cl tys s) (hP : fh_P D cl A h H) (hS : va_S A H0 H locs) (t0 : Nat) {E : String} {cA : ClassId} {n v : Nat} {f : Nat → Option Nat} (ha : h a = some (.inl (cA, n, .inr (.inr (.inr (.inr f)))))) (ht : tys[t0]? = some (cA, .object E)) (hr : va_Any E s H v) {i : Int32} (hin : vp_in i n) (hdg : decode cc pc = .ok (.aastore, 1))
    (kk : ∀ (H1 : Heap) (locs1 : List Loc), fh_P D cl A (va_up h a (some (.inl (cA, n, .inr (.inr (.inr (.inr (va_up f i.toNatClampNeg (some v))))))))) H1 → va_S A H0 H1 locs1 → W p l e R s m args below meth c H1 locs1 cells slots Q (F0 m (pc + 1) ls rest)) : W p l e R s m args below meth c H locs cells slots Q (F0 m pc ls (.ref v :: .int i :: .ref a :: rest)) := by
  obtain ⟨w, h1, h2, h3⟩ := hP
  obtain ⟨q0, hq⟩ := (h3 a _).mp ha
  exact va_astqM hexec hb hK h1 h2 hS q0 t0 hq ht hr hin hdg (fun H1 locs1 g1 g2 g3 => kk H1 locs1 ⟨_, g1, g2, h3.set h2 hq⟩ g3)
end FHX
theorem LI.frame {E : fh_E} {h h1 : fh_H} {al arr : Nat} {xs : List Nat} (hL : LI E h al arr xs) (ha : h1 al = h al) (hr : (∃ x, h arr = some x) → h1 arr = h arr) : LI E h1 al arr xs := by
  obtain ⟨md, cap, f, k1, k2, k3, k4, k5⟩ := hL
  refine ⟨md, cap, f, ha.trans k1, k2, k3, k4, ?_⟩
  rcases k5 with k5 | ⟨k5, k6⟩
  · exact Or.inl k5
  · exact Or.inr ⟨k5, (hr ⟨_, k6⟩).trans k6⟩
theorem LI.al {E : fh_E} {h : fh_H} {al arr : Nat} {xs : List Nat} (hL : LI E h al arr xs) : ∃ md, h al = some (.inr (0, [.ref arr, .int (nI xs.length), .int md])) := by
  obtain ⟨md, cap, f, k1, k2, k3, k4, k5⟩ := hL
  exact ⟨md, k1⟩
theorem LI.md {E : fh_E} {h : fh_H} {al arr : Nat} {xs : List Nat} (hL : LI E h al arr xs) (md' : Int32) : LI E (va_up h al (some (.inr (0, [.ref arr, .int (nI xs.length), .int md'])))) al arr xs := by
  obtain ⟨md, cap, f, k1, k2, k3, k4, k5⟩ := hL
  refine ⟨md', cap, f, va_up_self _ _ _, k2, k3, k4, ?_⟩
  rcases k5 with k5 | ⟨k5, k6⟩
  · exact Or.inl k5
  · exact Or.inr ⟨k5, fh_up k6 (fh_neA k6 k1)⟩
def Dm (h h1 : fh_H) : Prop := ∀ b, h1 b = none → h b = none
theorem dm_up {h h1 : fh_H} {a : Nat} {e : va_E} (q : h1 = va_up h a (some e)) : Dm h h1 := fun b hb => by
  subst q
  by_cases c : b = a
  · rw [c, va_up_self] at hb; cases hb
  · rw [va_up_ne _ _ c] at hb; exact hb
theorem Dm.trans {h h1 h2 : fh_H} (a : Dm h h1) (b : Dm h1 h2) : Dm h h2 := fun x hx => a x (b x hx)
def LIadd (E : fh_E) (h h1 : fh_H) (al arr : Nat) (xs : List Nat) (q : Nat) : Prop := ∃ arr', LI E h1 al arr' (xs ++ [q]) ∧ (∀ b, b ≠ al → b ≠ arr → b ≠ arr' → h1 b = h b) ∧ (arr' = arr ∨ h arr' = none) ∧ Dm h h1
/-- one more in an array that has room -/
theorem LI.put {E : fh_E} {h : fh_H} {al arr cap q : Nat} {f : Nat → Option Nat} {xs : List Nat} {md : Int32} (hlt : xs.length < cap) (hcap : cap ≤ 73) (h2 : 2 ≤ cap) (hf : ∀ i, i < xs.length → f i = xs[i]?) (ha : h al = some (.inr (0, [.ref arr, .int (nI (xs.length + 1)), .int md]))) (hr : h arr = some (.inl (fh_cO E, cap, .inr (.inr (.inr (.inr (va_up f xs.length (some q)))))))) : LI E h al arr (xs ++ [q]) := by
  refine ⟨md, cap, _, by rw [ha]; simp, by simp; omega, hcap, ?_, Or.inr ⟨h2, hr⟩⟩
  intro i hi
  simp at hi
  by_cases c : i = xs.length
  · subst c
    rw [va_up_self]
    simp
  · rw [va_up_ne _ _ c, List.getElem?_append_left (by omega)]
    exact hf i (by omega)
theorem li_elems {h : fh_H} {f : Nat → Option Nat} {xs : List Nat} {cap : Nat} (hf : ∀ i, i < xs.length → f i = xs[i]?) (hE : ∀ x ∈ xs, EO h x) (hc : cap = xs.length) : ∀ i, i < cap → ∀ y, f i = some y → EO h y := by
  intro i hi y hy
  rw [hf i (by omega)] at hy
  exact hE y (List.mem_of_getElem? hy)
theorem EO.upF {h h1 : fh_H} {y q al : Nat} {fs : List Value} (z : EO h y) (hu : y ≠ q → y ≠ al → h1 y = h y) (hq : h q = none) (ha : h al = some (.inr (0, fs))) : EO h1 y := by
  rcases z with ⟨gs, z⟩ | ⟨gs, z⟩
  · exact Or.inl ⟨gs, (hu (fh_neF z hq) (fh_ne z ha (by decide))).trans z⟩
  · exact Or.inr ⟨gs, (hu (fh_neF z hq) (fh_ne z ha (by decide))).trans z⟩
theorem EO.upO {h h1 : fh_H} {y al : Nat} {fs : List Value} (z : EO h y) (hu : y ≠ al → h1 y = h y) (ha : h al = some (.inr (0, fs))) : EO h1 y := by
  rcases z with ⟨gs, z⟩ | ⟨gs, z⟩
  · exact Or.inl ⟨gs, (hu (fh_ne z ha (by decide))).trans z⟩
  · exact Or.inr ⟨gs, (hu (fh_ne z ha (by decide))).trans z⟩

set_option maxHeartbeats 4000000 in
set_option maxRecDepth 100000 in
theorem c_AL_grow0_ed (l : Launch) (E : fh_E) (h : fh_H) (al : Nat) (md : Int32) (ha : h al = some (.inr (0, [.ref (fh_ed E), .int (nI 0), .int md]))) : fh_Met l y_AL_grow0 w_AL_grow0 ({ frames := 4, cells := 1, slots := 73, locals := 127 }) E [.ref al] h (fun r h1 => ∃ q, r = some (.ref q) ∧ h q = none ∧ h1 = va_up (va_up h q (some (.inl (fh_cO E, 10, .inr (.inr (.inr (.inr (fun _ => none)))))))) al (some (.inr (0, [.ref q, .int (nI 0), .int md])))) 1 73 := by
  refine fh_ofW (cc := b_AL_grow0) (maxL := 1) (ret := (some (.array (.object "java/lang/Object")))) (by decide) rfl (Nat.le_of_ble_eq_true rfl) ?_
  intro p e s m below meth c A ls hx hb hr hml hown hts hlocks hname hnoh hadm hA hK hZ hP hS hl
  have hG : ∀ w ∈ G, w.before _ s = true := fun w hw => hts w (List.mem_cons_of_mem _ hw)
  have hown : s.vm.findClass R_AL = some m.cls := hown
  have hl : lv_has ls 1 [(0, .ref al)] := hl
  refine lv_aload_n hx hb d_AL_grow0_0 rfl (lv_at hl 0 rfl) ?_
  refine lv_aload_n hx hb d_AL_grow0_1 rfl (lv_at hl 0 rfl) ?_
  refine fh_get hx hb hG C_AL iG_AL hown hK hP ha 1 (by decide) gm52 rfl d_AL_grow0_2 ?_
  refine lv_iconst (v := 1) hx hb d_AL_grow0_5 (by decide) ?_
  refine lv_iadd hx hb d_AL_grow0_6 ?_
  refine W.eq (g2 := F0 m 7 ls [.int (nI 1), .ref al]) (by rw [nI_1]) ?_
  refine fh_callV (C := R_AL) (y := y_AL_grow1) (bytes := b_AL_grow1) (maxL := 4) (ret := (some (.array (.object "java/lang/Object")))) (index := 69) (As := [.int (nI 1)]) (rest := []) ⟨hx, hb, hml, hown, hG⟩ (c_AL_grow1_ed l E h al (nI 0) md 1 (by omega) ha) (cwV 1 hG (gV gm305 gm307 gs_AL_grow1 gm5 gm308) rfl rfl rfl ⟨rfl, hdy_AL_grow1⟩ ⟨Nat.le_of_ble_eq_true rfl, Nat.le_of_ble_eq_true rfl⟩) C_AL.1 ha hK hZ hP hS hA rfl hl.1 rfl (Nat.le_of_ble_eq_true rfl) d_AL_grow0_7 ⟨Nat.le_of_ble_eq_true rfl, Nat.le_of_ble_eq_true rfl⟩ (fun r h1 H locs hq9 hP hS => ?_)
  obtain ⟨q, rfl, hf1, e9⟩ := hq9
  refine W.eq (g2 := F0 m 10 ls [.ref q]) rfl ?_
  exact fh_aret hx hb hr (Or.inr ⟨_, rfl⟩) (Or.inr ⟨_, rfl⟩) hlocks (Nat.le_of_ble_eq_true rfl) (Nat.le_of_ble_eq_true rfl) hP hS ⟨q, rfl, hf1, e9⟩ d_AL_grow0_10

set_option maxHeartbeats 4000000 in
set_option maxRecDepth 100000 in
theorem c_AL_grow0_ar (l : Launch) (E : fh_E) (h : fh_H) (al arr cap : Nat) (f : Nat → Option Nat) (md : Int32) (h2 : 2 ≤ cap) (h48 : cap ≤ 48) (ha : h al = some (.inr (0, [.ref arr, .int (nI cap), .int md]))) (hr0 : h arr = some (.inl (fh_cO E, cap, .inr (.inr (.inr (.inr f)))))) (hE : ∀ i, i < cap → ∀ y, f i = some y → EO h y) : fh_Met l y_AL_grow0 w_AL_grow0 ({ frames := 4, cells := 1, slots := 73, locals := 127 }) E [.ref al] h (fun r h1 => ∃ q, r = some (.ref q) ∧ h q = none ∧ h1 = va_up (va_up h q (some (.inl (fh_cO E, cap + cap / 2, .inr (.inr (.inr (.inr (va_cpy f (fun _ => none) 0 0 cap)))))))) al (some (.inr (0, [.ref q, .int (nI cap), .int md])))) 1 73 := by
  refine fh_ofW (cc := b_AL_grow0) (maxL := 1) (ret := (some (.array (.object "java/lang/Object")))) (by decide) rfl (Nat.le_of_ble_eq_true rfl) ?_
  intro p e s m below meth c A ls hx hb hr hml hown hts hlocks hname hnoh hadm hA hK hZ hP hS hl
  have hG : ∀ w ∈ G, w.before _ s = true := fun w hw => hts w (List.mem_cons_of_mem _ hw)
  have hown : s.vm.findClass R_AL = some m.cls := hown
  have hl : lv_has ls 1 [(0, .ref al)] := hl
  refine lv_aload_n hx hb d_AL_grow0_0 rfl (lv_at hl 0 rfl) ?_
  refine lv_aload_n hx hb d_AL_grow0_1 rfl (lv_at hl 0 rfl) ?_
  refine fh_get hx hb hG C_AL iG_AL hown hK hP ha 1 (by decide) gm52 rfl d_AL_grow0_2 ?_
  refine lv_iconst (v := 1) hx hb d_AL_grow0_5 (by decide) ?_
  refine lv_iadd hx hb d_AL_grow0_6 ?_
  refine W.eq (g2 := F0 m 7 ls [.int (nI (cap + 1)), .ref al]) (by rw [nI_1]) ?_
  refine fh_callV (C := R_AL) (y := y_AL_grow1) (bytes := b_AL_grow1) (maxL := 4) (ret := (some (.array (.object "java/lang/Object")))) (index := 69) (As := [.int (nI (cap + 1))]) (rest := []) ⟨hx, hb, hml, hown, hG⟩ (c_AL_grow1_ar l E h al arr cap f (nI cap) md h2 h48 ha hr0 hE) (cwV 1 hG (gV gm305 gm307 gs_AL_grow1 gm5 gm308) rfl rfl rfl ⟨rfl, hdy_AL_grow1⟩ ⟨Nat.le_of_ble_eq_true rfl, Nat.le_of_ble_eq_true rfl⟩) C_AL.1 ha hK hZ hP hS hA rfl hl.1 rfl (Nat.le_of_ble_eq_true rfl) d_AL_grow0_7 ⟨Nat.le_of_ble_eq_true rfl, Nat.le_of_ble_eq_true rfl⟩ (fun r h1 H locs hq9 hP hS => ?_)
  obtain ⟨q, rfl, hf1, e9⟩ := hq9
  refine W.eq (g2 := F0 m 10 ls [.ref q]) rfl ?_
  exact fh_aret hx hb hr (Or.inr ⟨_, rfl⟩) (Or.inr ⟨_, rfl⟩) hlocks (Nat.le_of_ble_eq_true rfl) (Nat.le_of_ble_eq_true rfl) hP hS ⟨q, rfl, hf1, e9⟩ d_AL_grow0_10

set_option maxHeartbeats 4000000 in
set_option maxRecDepth 100000 in
theorem c_AL_add1 (l : Launch) (E : fh_E) (h : fh_H) (al arr : Nat) (xs : List Nat) (q0 : Nat) (hL : LI E h al arr xs) (h48 : xs.length ≤ 48) (hE : ∀ x ∈ xs, EO h x) (he : EO h q0) : fh_Met l y_AL_add1 w_AL_add1 ({ frames := 5, cells := 1, slots := 73, locals := 147 }) E [.ref al, .ref q0, .ref arr, .int (nI xs.length)] h (fun r h1 => r = none ∧ LIadd E h h1 al arr xs q0) 1 73 := by
  refine fh_ofW (cc := b_AL_add1) (maxL := 4) (ret := none) (by decide) rfl (Nat.le_of_ble_eq_true rfl) ?_
  intro p e s m below meth c A ls hx hb hr hml hown hts hlocks hname hnoh hadm hA hK hZ hP hS hl
  have hG : ∀ w ∈ G, w.before _ s = true := fun w hw => hts w (List.mem_cons_of_mem _ hw)
  have hown : s.vm.findClass R_AL = some m.cls := hown
  have hl : lv_has ls 4 [(0, .ref al), (1, .ref q0), (2, .ref arr), (3, .int (nI xs.length))] := hl
  obtain ⟨md, cap, f, ha, hlen, hcap, hf, hr0⟩ := hL
  rcases hr0 with ⟨ea, ec⟩ | ⟨h2, hr0⟩
  · subst ea
    have hz : xs.length = 0 := by omega
    rw [hz] at ha
    have hl : lv_has ls 4 [(0, .ref al), (1, .ref q0), (2, .ref (fh_ed E)), (3, .int (nI 0))] := by rw [hz] at hl; exact hl
    refine lv_iload_n hx hb d_AL_add1_0 rfl (lv_at hl 3 rfl) ?_
    refine lv_aload_n hx hb d_AL_add1_1 rfl (lv_at hl 2 rfl) ?_
    refine va_tlen hx hb hZ.2.1 hS (v := 0) rfl d_AL_add1_2 ?_
    refine lv_icmp_ne (tgt := 11) hx hb d_AL_add1_3 (by decide) (fun c_1 => ?_) (fun c_1 => ?_)
    · skip
      exact absurd nI_0 c_1
    · skip
      refine lv_aload_n hx hb d_AL_add1_6 rfl (lv_at hl 0 rfl) ?_
      refine fh_callV (C := R_AL) (y := y_AL_grow0) (bytes := b_AL_grow0) (maxL := 1) (ret := (some (.array (.object "java/lang/Object")))) (index := 129) (As := []) (rest := []) ⟨hx, hb, hml, hown, hG⟩ (c_AL_grow0_ed l E h al md ha) (cwV 0 hG (gV gm301 gm303 gs_AL_grow0 gm5 gm304) rfl rfl rfl ⟨rfl, hdy_AL_grow0⟩ ⟨Nat.le_of_ble_eq_true rfl, Nat.le_of_ble_eq_true rfl⟩) C_AL.1 ha hK hZ hP hS hA rfl hl.1 rfl (Nat.le_of_ble_eq_true rfl) d_AL_add1_7 ⟨Nat.le_of_ble_eq_true rfl, Nat.le_of_ble_eq_true rfl⟩ (fun r h1 H locs hq9 hP hS => ?_)
      obtain ⟨q, rfl, hf1, e9⟩ := hq9
      rw [e9] at hP
      refine W.eq (g2 := F0 m 10 ls [.ref q]) rfl ?_
      obtain ⟨h_2, eh_3⟩ : ∃ z : fh_H, z = va_up h q (some (.inl (fh_cO E, 10, .inr (.inr (.inr (.inr (fun _ => none))))))) := ⟨_, rfl⟩
      have k_4 : h_2 al = some (.inr (0, [.ref (fh_ed E), .int (nI 0), .int md])) := by rw [eh_3]; exact fh_up ha (fh_neF ha hf1)
      have k_5 : h_2 q = some (.inl (fh_cO E, 10, .inr (.inr (.inr (.inr (fun _ => none)))))) := by rw [eh_3]; exact va_up_self _ _ _
      obtain ⟨h_6, eh_7⟩ : ∃ z : fh_H, z = va_up h_2 al (some (.inr (0, [.ref q, .int (nI 0), .int md]))) := ⟨_, rfl⟩
      have hP : fh_P E.1 vwCl A h_6 H := by rw [eh_7, eh_3]; exact hP
      have k_8 : h_6 q = some (.inl (fh_cO E, 10, .inr (.inr (.inr (.inr (fun _ => none)))))) := by rw [eh_7]; exact fh_up k_5 (fh_neA k_5 k_4)
      have k_9 : h_6 al = some (.inr (0, [.ref q, .int (nI 0), .int md])) := by rw [eh_7]; exact va_up_self _ _ _
      refine lv_astore_n (lv' := [(2, .ref q), (0, .ref al), (1, .ref q0), (3, .int (nI 0))]) hx hb d_AL_add1_10 rfl hl (by decide) rfl (fun ls hl => ?_)
      refine lv_aload_n hx hb d_AL_add1_11 rfl (lv_at hl 0 rfl) ?_
      refine lv_iload_n hx hb d_AL_add1_12 rfl (lv_at hl 3 rfl) ?_
      refine lv_aload_n hx hb d_AL_add1_13 rfl (lv_at hl 2 rfl) ?_
      refine fh_astqM hx hb hK hP hS 2 k_8 rfl (EO.any hZ hK hP (he.upF (q := q) (al := al) (fun z1 z2 => by rw [eh_7, va_up_ne _ _ z2, eh_3, va_up_ne _ _ z1]) hf1 ha)) (vp_in_nI (by decide) (by decide)) d_AL_add1_14 (fun H locs hP hS => ?_)
      rw [nI_clamp (by decide)] at hP
      obtain ⟨h_10, eh_11⟩ : ∃ z : fh_H, z = va_up h_6 q (some (.inl (fh_cO E, 10, .inr (.inr (.inr (.inr (va_up (fun _ => none) 0 (some q0)))))))) := ⟨_, rfl⟩
      have hP : fh_P E.1 vwCl A h_10 H := by rw [eh_11]; exact hP
      have k_12 : h_10 al = some (.inr (0, [.ref q, .int (nI 0), .int md])) := by rw [eh_11]; exact fh_up k_9 (Ne.symm (fh_neA k_8 k_9))
      have k_13 : h_10 q = some (.inl (fh_cO E, 10, .inr (.inr (.inr (.inr (va_up (fun _ => none) 0 (some q0))))))) := by rw [eh_11]; exact va_up_self _ _ _
      refine lv_aload_n hx hb d_AL_add1_15 rfl (lv_at hl 1 rfl) ?_
      refine lv_iload_n hx hb d_AL_add1_16 rfl (lv_at hl 3 rfl) ?_
      refine lv_iconst (v := 1) hx hb d_AL_add1_17 (by decide) ?_
      refine lv_iadd hx hb d_AL_add1_18 ?_
      refine W.eq (g2 := F0 m 19 ls [.int (nI 1), .ref al]) (by rw [nI_1]) ?_
      refine fh_put hx hb hG C_AL iG_AL hown hK hP hS k_12 1 (by decide) gm52 rfl (v := .int (nI 1)) rfl rfl (Nat.le_of_ble_eq_true rfl) d_AL_add1_19 (fun H locs hP hS => ?_)
      obtain ⟨h_14, eh_15⟩ : ∃ z : fh_H, z = va_up h_10 al (some (.inr (0, [.ref q, .int (nI 1), .int md]))) := ⟨_, rfl⟩
      have hP : fh_P E.1 vwCl A h_14 H := by rw [eh_15]; exact hP
      have k_16 : h_14 q = some (.inl (fh_cO E, 10, .inr (.inr (.inr (.inr (va_up (fun _ => none) 0 (some q0))))))) := by rw [eh_15]; exact fh_up k_13 (fh_neA k_13 k_12)
      have k_17 : h_14 al = some (.inr (0, [.ref q, .int (nI 1), .int md])) := by rw [eh_15]; exact va_up_self _ _ _
      refine fh_vret hx hb hr hlocks (Nat.le_of_ble_eq_true rfl) (Nat.le_of_ble_eq_true rfl) hP hS ⟨rfl, q, ?_, ?_, Or.inr hf1, (dm_up eh_3).trans ((dm_up eh_7).trans ((dm_up eh_11).trans (dm_up eh_15)))⟩ d_AL_add1_22
      · exact LI.put (f := fun _ => none) (cap := 10) (md := md) (by omega) (by omega) (by omega) (fun i hi => by omega) (by rw [hz]; exact k_17) (by rw [hz]; exact k_16)
      · intro b z1 z2 z3
        rw [eh_15, va_up_ne _ _ z1, eh_11, va_up_ne _ _ z3, eh_7, va_up_ne _ _ z1, eh_3, va_up_ne _ _ z3]
  · by_cases hfull : xs.length = cap
    · subst hfull
      refine lv_iload_n hx hb d_AL_add1_0 rfl (lv_at hl 3 rfl) ?_
      refine lv_aload_n hx hb d_AL_add1_1 rfl (lv_at hl 2 rfl) ?_
      refine fh_alen hx hb hK hP 2 hr0 rfl rfl d_AL_add1_2 ?_
      refine W.eq (g2 := F0 m 3 ls [.int (nI xs.length), .int (nI xs.length)]) (rfl) ?_
      refine lv_icmp_ne (tgt := 11) hx hb d_AL_add1_3 (by decide) (fun c_18 => ?_) (fun c_18 => ?_)
      · skip
        exact absurd rfl c_18
      · skip
        refine lv_aload_n hx hb d_AL_add1_6 rfl (lv_at hl 0 rfl) ?_
        refine fh_callV (C := R_AL) (y := y_AL_grow0) (bytes := b_AL_grow0) (maxL := 1) (ret := (some (.array (.object "java/lang/Object")))) (index := 129) (As := []) (rest := []) ⟨hx, hb, hml, hown, hG⟩ (c_AL_grow0_ar l E h al arr xs.length f md h2 h48 ha hr0 (li_elems hf hE rfl)) (cwV 0 hG (gV gm301 gm303 gs_AL_grow0 gm5 gm304) rfl rfl rfl ⟨rfl, hdy_AL_grow0⟩ ⟨Nat.le_of_ble_eq_true rfl, Nat.le_of_ble_eq_true rfl⟩) C_AL.1 ha hK hZ hP hS hA rfl hl.1 rfl (Nat.le_of_ble_eq_true rfl) d_AL_add1_7 ⟨Nat.le_of_ble_eq_true rfl, Nat.le_of_ble_eq_true rfl⟩ (fun r h1 H locs hq9 hP hS => ?_)
        obtain ⟨q, rfl, hf1, e9⟩ := hq9
        rw [e9] at hP
        refine W.eq (g2 := F0 m 10 ls [.ref q]) rfl ?_
        obtain ⟨h_19, eh_20⟩ : ∃ z : fh_H, z = va_up h q (some (.inl (fh_cO E, xs.length + xs.length / 2, .inr (.inr (.inr (.inr (va_cpy f (fun _ => none) 0 0 xs.length))))))) := ⟨_, rfl⟩
        have k_21 : h_19 al = some (.inr (0, [.ref arr, .int (nI xs.length), .int md])) := by rw [eh_20]; exact fh_up ha (fh_neF ha hf1)
        have k_22 : h_19 arr = some (.inl (fh_cO E, xs.length, .inr (.inr (.inr (.inr f))))) := by rw [eh_20]; exact fh_up hr0 (fh_neF hr0 hf1)
        have k_23 : h_19 q = some (.inl (fh_cO E, xs.length + xs.length / 2, .inr (.inr (.inr (.inr (va_cpy f (fun _ => none) 0 0 xs.length)))))) := by rw [eh_20]; exact va_up_self _ _ _
        obtain ⟨h_24, eh_25⟩ : ∃ z : fh_H, z = va_up h_19 al (some (.inr (0, [.ref q, .int (nI xs.length), .int md]))) := ⟨_, rfl⟩
        have hP : fh_P E.1 vwCl A h_24 H := by rw [eh_25, eh_20]; exact hP
        have k_26 : h_24 arr = some (.inl (fh_cO E, xs.length, .inr (.inr (.inr (.inr f))))) := by rw [eh_25]; exact fh_up k_22 (fh_neA k_22 k_21)
        have k_27 : h_24 q = some (.inl (fh_cO E, xs.length + xs.length / 2, .inr (.inr (.inr (.inr (va_cpy f (fun _ => none) 0 0 xs.length)))))) := by rw [eh_25]; exact fh_up k_23 (fh_neA k_23 k_21)
        have k_28 : h_24 al = some (.inr (0, [.ref q, .int (nI xs.length), .int md])) := by rw [eh_25]; exact va_up_self _ _ _
        refine lv_astore_n (lv' := [(2, .ref q), (0, .ref al), (1, .ref q0), (3, .int (nI xs.length))]) hx hb d_AL_add1_10 rfl hl (by decide) rfl (fun ls hl => ?_)
        refine lv_aload_n hx hb d_AL_add1_11 rfl (lv_at hl 0 rfl) ?_
        refine lv_iload_n hx hb d_AL_add1_12 rfl (lv_at hl 3 rfl) ?_
        refine lv_aload_n hx hb d_AL_add1_13 rfl (lv_at hl 2 rfl) ?_
        refine fh_astqM hx hb hK hP hS 2 k_27 rfl (EO.any hZ hK hP (he.upF (q := q) (al := al) (fun z1 z2 => by rw [eh_25, va_up_ne _ _ z2, eh_20, va_up_ne _ _ z1]) hf1 ha)) (vp_in_nI (by omega) (by omega)) d_AL_add1_14 (fun H locs hP hS => ?_)
        rw [nI_clamp (by omega)] at hP
        obtain ⟨h_29, eh_30⟩ : ∃ z : fh_H, z = va_up h_24 q (some (.inl (fh_cO E, xs.length + xs.length / 2, .inr (.inr (.inr (.inr (va_up (va_cpy f (fun _ => none) 0 0 xs.length) xs.length (some q0)))))))) := ⟨_, rfl⟩
        have hP : fh_P E.1 vwCl A h_29 H := by rw [eh_30]; exact hP
        have k_31 : h_29 al = some (.inr (0, [.ref q, .int (nI xs.length), .int md])) := by rw [eh_30]; exact fh_up k_28 (Ne.symm (fh_neA k_27 k_28))
        have k_32 : h_29 arr = some (.inl (fh_cO E, xs.length, .inr (.inr (.inr (.inr f))))) := by rw [eh_30]; exact fh_up k_26 (fh_neF hr0 hf1)
        have k_33 : h_29 q = some (.inl (fh_cO E, xs.length + xs.length / 2, .inr (.inr (.inr (.inr (va_up (va_cpy f (fun _ => none) 0 0 xs.length) xs.length (some q0))))))) := by rw [eh_30]; exact va_up_self _ _ _
        refine lv_aload_n hx hb d_AL_add1_15 rfl (lv_at hl 1 rfl) ?_
        refine lv_iload_n hx hb d_AL_add1_16 rfl (lv_at hl 3 rfl) ?_
        refine lv_iconst (v := 1) hx hb d_AL_add1_17 (by decide) ?_
        refine lv_iadd hx hb d_AL_add1_18 ?_
        refine W.eq (g2 := F0 m 19 ls [.int (nI (xs.length + 1)), .ref al]) (by rw [nI_1]) ?_
        refine fh_put hx hb hG C_AL iG_AL hown hK hP hS k_31 1 (by decide) gm52 rfl (v := .int (nI (xs.length + 1))) rfl rfl (Nat.le_of_ble_eq_true rfl) d_AL_add1_19 (fun H locs hP hS => ?_)
        obtain ⟨h_34, eh_35⟩ : ∃ z : fh_H, z = va_up h_29 al (some (.inr (0, [.ref q, .int (nI (xs.length + 1)), .int md]))) := ⟨_, rfl⟩
        have hP : fh_P E.1 vwCl A h_34 H := by rw [eh_35]; exact hP
        have k_36 : h_34 arr = some (.inl (fh_cO E, xs.length, .inr (.inr (.inr (.inr f))))) := by rw [eh_35]; exact fh_up k_32 (fh_neA k_32 k_31)
        have k_37 : h_34 q = some (.inl (fh_cO E, xs.length + xs.length / 2, .inr (.inr (.inr (.inr (va_up (va_cpy f (fun _ => none) 0 0 xs.length) xs.length (some q0))))))) := by rw [eh_35]; exact fh_up k_33 (fh_neA k_33 k_31)
        have k_38 : h_34 al = some (.inr (0, [.ref q, .int (nI (xs.length + 1)), .int md])) := by rw [eh_35]; exact va_up_self _ _ _
        refine fh_vret hx hb hr hlocks (Nat.le_of_ble_eq_true rfl) (Nat.le_of_ble_eq_true rfl) hP hS ⟨rfl, q, ?_, ?_, Or.inr hf1, (dm_up eh_20).trans ((dm_up eh_25).trans ((dm_up eh_30).trans (dm_up eh_35)))⟩ d_AL_add1_22
        · exact LI.put (f := va_cpy f (fun _ => none) 0 0 xs.length) (cap := xs.length + xs.length / 2) (md := md) (by omega) (by omega) (by omega) (fun i hi => by rw [pk_cpy_in (by omega) (by omega), Nat.zero_add, Nat.sub_zero]; exact hf i hi) k_38 k_37
        · intro b z1 z2 z3
          rw [eh_35, va_up_ne _ _ z1, eh_30, va_up_ne _ _ z3, eh_25, va_up_ne _ _ z1, eh_20, va_up_ne _ _ z3]
    · have hlt : xs.length < cap := by omega
      refine lv_iload_n hx hb d_AL_add1_0 rfl (lv_at hl 3 rfl) ?_
      refine lv_aload_n hx hb d_AL_add1_1 rfl (lv_at hl 2 rfl) ?_
      refine fh_alen hx hb hK hP 2 hr0 rfl rfl d_AL_add1_2 ?_
      refine W.eq (g2 := F0 m 3 ls [.int (nI cap), .int (nI xs.length)]) (rfl) ?_
      refine lv_icmp_ne (tgt := 11) hx hb d_AL_add1_3 (by decide) (fun c_39 => ?_) (fun c_39 => ?_)
      · skip
        refine lv_aload_n hx hb d_AL_add1_11 rfl (lv_at hl 2 rfl) ?_
        refine lv_iload_n hx hb d_AL_add1_12 rfl (lv_at hl 3 rfl) ?_
        refine lv_aload_n hx hb d_AL_add1_13 rfl (lv_at hl 1 rfl) ?_
        refine fh_astqM hx hb hK hP hS 2 hr0 rfl (EO.any hZ hK hP he) (vp_in_nI hlt (by omega)) d_AL_add1_14 (fun H locs hP hS => ?_)
        rw [nI_clamp (by omega)] at hP
        obtain ⟨h_40, eh_41⟩ : ∃ z : fh_H, z = va_up h arr (some (.inl (fh_cO E, cap, .inr (.inr (.inr (.inr (va_up (f) xs.length (some q0)))))))) := ⟨_, rfl⟩
        have hP : fh_P E.1 vwCl A h_40 H := by rw [eh_41]; exact hP
        have k_42 : h_40 al = some (.inr (0, [.ref arr, .int (nI xs.length), .int md])) := by rw [eh_41]; exact fh_up ha (Ne.symm (fh_neA hr0 ha))
        have k_43 : h_40 arr = some (.inl (fh_cO E, cap, .inr (.inr (.inr (.inr (va_up (f) xs.length (some q0))))))) := by rw [eh_41]; exact va_up_self _ _ _
        refine lv_aload_n hx hb d_AL_add1_15 rfl (lv_at hl 0 rfl) ?_
        refine lv_iload_n hx hb d_AL_add1_16 rfl (lv_at hl 3 rfl) ?_
        refine lv_iconst (v := 1) hx hb d_AL_add1_17 (by decide) ?_
        refine lv_iadd hx hb d_AL_add1_18 ?_
        refine W.eq (g2 := F0 m 19 ls [.int (nI (xs.length + 1)), .ref al]) (by rw [nI_1]) ?_
        refine fh_put hx hb hG C_AL iG_AL hown hK hP hS k_42 1 (by decide) gm52 rfl (v := .int (nI (xs.length + 1))) rfl rfl (Nat.le_of_ble_eq_true rfl) d_AL_add1_19 (fun H locs hP hS => ?_)
        obtain ⟨h_44, eh_45⟩ : ∃ z : fh_H, z = va_up h_40 al (some (.inr (0, [.ref arr, .int (nI (xs.length + 1)), .int md]))) := ⟨_, rfl⟩
        have hP : fh_P E.1 vwCl A h_44 H := by rw [eh_45]; exact hP
        have k_46 : h_44 arr = some (.inl (fh_cO E, cap, .inr (.inr (.inr (.inr (va_up (f) xs.length (some q0))))))) := by rw [eh_45]; exact fh_up k_43 (fh_neA k_43 k_42)
        have k_47 : h_44 al = some (.inr (0, [.ref arr, .int (nI (xs.length + 1)), .int md])) := by rw [eh_45]; exact va_up_self _ _ _
        refine fh_vret hx hb hr hlocks (Nat.le_of_ble_eq_true rfl) (Nat.le_of_ble_eq_true rfl) hP hS ⟨rfl, arr, ?_, ?_, Or.inl rfl, (dm_up eh_41).trans (dm_up eh_45)⟩ d_AL_add1_22
        · exact LI.put (f := f) (cap := cap) (md := md) hlt hcap h2 hf k_47 k_46
        · intro b z1 z2 z3
          rw [eh_45, va_up_ne _ _ z1, eh_41, va_up_ne _ _ z2]
      · skip
        exact absurd ((nI_eq (by omega) (by omega)).mp c_39) hfull

set_option maxHeartbeats 4000000 in
set_option maxRecDepth 100000 in
theorem c_AL_add0 (l : Launch) (E : fh_E) (h : fh_H) (al arr : Nat) (xs : List Nat) (q0 : Nat) (hL : LI E h al arr xs) (h48 : xs.length ≤ 48) (hE : ∀ x ∈ xs, EO h x) (he : EO h q0) : fh_Met l y_AL_add0 w_AL_add0 ({ frames := 6, cells := 1, slots := 73, locals := 170 }) E [.ref al, .ref q0] h (fun r h1 => r = some (.int 1) ∧ LIadd E h h1 al arr xs q0) 1 73 := by
  refine fh_ofW (cc := b_AL_add0) (maxL := 2) (ret := (some .boolean)) (by decide) rfl (Nat.le_of_ble_eq_true rfl) ?_
  intro p e s m below meth c A ls hx hb hr hml hown hts hlocks hname hnoh hadm hA hK hZ hP hS hl
  have hG : ∀ w ∈ G, w.before _ s = true := fun w hw => hts w (List.mem_cons_of_mem _ hw)
  have hown : s.vm.findClass R_AL = some m.cls := hown
  have hl : lv_has ls 2 [(0, .ref al), (1, .ref q0)] := hl
  obtain ⟨md, ha⟩ := hL.al
  refine lv_aload_n hx hb d_AL_add0_0 rfl (lv_at hl 0 rfl) ?_
  refine lv_dup hx hb d_AL_add0_1 rfl ?_
  refine fh_getS (ref := "java/util/ArrayList") hx hb hG C_AL iG_AL hown hK hP ha 2 (by decide) gm54 (u_same (hG _ gm55)) rfl d_AL_add0_2 ?_
  refine lv_iconst (v := 1) hx hb d_AL_add0_5 (by decide) ?_
  refine lv_iadd hx hb d_AL_add0_6 ?_
  refine fh_putS (ref := "java/util/ArrayList") hx hb hG C_AL iG_AL hown hK hP hS ha 2 (by decide) gm54 (u_same (hG _ gm55)) rfl (v := .int (md + 1)) rfl rfl (Nat.le_of_ble_eq_true rfl) d_AL_add0_7 (fun H locs hP hS => ?_)
  obtain ⟨h_1, eh_2⟩ : ∃ z : fh_H, z = va_up h al (some (.inr (0, [.ref arr, .int (nI xs.length), .int (md + 1)]))) := ⟨_, rfl⟩
  have hP : fh_P E.1 vwCl A h_1 H := by rw [eh_2]; exact hP
  have k_3 : h_1 al = some (.inr (0, [.ref arr, .int (nI xs.length), .int (md + 1)])) := by rw [eh_2]; exact va_up_self _ _ _
  refine lv_aload_n hx hb d_AL_add0_10 rfl (lv_at hl 0 rfl) ?_
  refine lv_aload_n hx hb d_AL_add0_11 rfl (lv_at hl 1 rfl) ?_
  refine lv_aload_n hx hb d_AL_add0_12 rfl (lv_at hl 0 rfl) ?_
  refine fh_get hx hb hG C_AL iG_AL hown hK hP k_3 0 (by decide) gm51 rfl d_AL_add0_13 ?_
  refine lv_aload_n hx hb d_AL_add0_16 rfl (lv_at hl 0 rfl) ?_
  refine fh_get hx hb hG C_AL iG_AL hown hK hP k_3 1 (by decide) gm52 rfl d_AL_add0_17 ?_
  refine fh_callV (C := R_AL) (y := y_AL_add1) (bytes := b_AL_add1) (maxL := 4) (ret := none) (index := 131) (As := [.ref q0, .ref arr, .int (nI xs.length)]) (rest := []) ⟨hx, hb, hml, hown, hG⟩ (c_AL_add1 l E h_1 al arr xs q0 (by rw [eh_2]; exact hL.md _) h48 (fun y hy => (hE y hy).upO (fun z => by rw [eh_2, va_up_ne _ _ z]) ha) (he.upO (fun z => by rw [eh_2, va_up_ne _ _ z]) ha)) (cwV 3 hG (gV gm297 gm299 gs_AL_add1 gm5 gm300) rfl rfl rfl ⟨rfl, hdy_AL_add1⟩ ⟨Nat.le_of_ble_eq_true rfl, Nat.le_of_ble_eq_true rfl⟩) C_AL.1 k_3 hK hZ hP hS hA rfl hl.1 rfl (Nat.le_of_ble_eq_true rfl) d_AL_add0_20 ⟨Nat.le_of_ble_eq_true rfl, Nat.le_of_ble_eq_true rfl⟩ (fun r h1 H locs hq9 hP hS => ?_)
  obtain ⟨rfl, arr1, g1, g2, g3, g4⟩ := hq9
  refine W.eq (g2 := F0 m 23 ls []) rfl ?_
  refine lv_iconst (v := 1) hx hb d_AL_add0_23 (by decide) ?_
  refine fh_zret hx hb hr rfl hlocks (Nat.le_of_ble_eq_true rfl) (Nat.le_of_ble_eq_true rfl) hP hS ⟨rfl, arr1, g1, ?_, ?_, (dm_up eh_2).trans g4⟩ d_AL_add0_24
  · intro b z1 z2 z3
    rw [g2 b z1 z2 z3, eh_2, va_up_ne _ _ z1]
  · rcases g3 with g3 | g3
    · exact Or.inl g3
    · by_cases z : arr1 = al
      · rw [z, eh_2, va_up_self] at g3
        cases g3
      · rw [eh_2, va_up_ne _ _ z] at g3
        exact Or.inr g3
