/-! WHAT A CHANGE LEAVES OF THE DISK AND OF THE LAYER. -/
theorem LI.or {E : fh_E} {h : fh_H} {al arr : Nat} {xs : List Nat} (hL : LI E h al arr xs) : arr = fh_ed E ∨ ∃ x, h arr = some (.inl x) := by
  obtain ⟨md, cap, f, j1, j2, j3, j4, j5⟩ := hL
  rcases j5 with ⟨j5, -⟩ | ⟨-, j6⟩
  · exact Or.inl j5
  · exact Or.inr ⟨_, j6⟩
/-- a list's array that is there later was there before -/
theorem LI.back {E : fh_E} {h h1 : fh_H} {al arr : Nat} {xs : List Nat} {x : va_E} (hL : LI E h al arr xs) (e1 : h1 (fh_ed E) = none) (hx : h1 arr = some x) : ∃ y, h arr = some (.inl y) := by
  rcases hL.or with z | z
  · rw [z, e1] at hx; cases hx
  · exact z
theorem DKs.keep {E : fh_E} {h h1 : fh_H} {dk qu qal qarr med cs cal carr : Nat} {rqs : List tQ} {mf : Nat → Int32} {cps : List tC} {sv : Option tQ} {ul tm hd up wy sd il : Int32} {X : Nat → Prop} (hD : DKs E h dk qu qal qarr med cs cal carr rqs mf cps sv ul tm hd up wy sd il) (e1 : h1 (fh_ed E) = none) (F : Fr h h1 X)
    (x1 : ¬ X dk) (x2 : ¬ X qu) (x3 : ¬ X qal) (x4 : ∀ e, h qarr = some e → ¬ X qarr) (x5 : ∀ r ∈ rqs, ¬ X r.1) (x6 : ¬ X med) (x7 : ¬ X cs) (x8 : ¬ X cal) (x9 : ∀ e, h carr = some e → ¬ X carr) (x10 : ∀ r ∈ cps, ¬ X r.1) (x11 : ∀ r, sv = some r → ¬ X r.1) : DKs E h1 dk qu qal qarr med cs cal carr rqs mf cps sv ul tm hd up wy sd il := by
  obtain ⟨hd0, hQ, hm, hC, hsv, hnd, hqc, hqa⟩ := hD
  refine ⟨F _ _ hd0 x1, hQ.keep F x2 x3 x4 x5, F _ _ hm x6, hC.keep F x7 x8 x9 x10, fun r z => ⟨F _ _ (hsv r z).1 (x11 r z), (hsv r z).2⟩, hnd, hqc, fun x hx => ?_⟩
  obtain ⟨y, hy⟩ := hQ.2.1.back e1 hx
  exact hqa _ hy
/-- one object is changed, that is none of the disk's -/
theorem DKs.keepO {E : fh_E} {h h1 : fh_H} {dk qu qal qarr med cs cal carr : Nat} {rqs : List tQ} {mf : Nat → Int32} {cps : List tC} {sv : Option tQ} {ul tm hd up wy sd il : Int32} {a i : Nat} {fs : List Value} (hD : DKs E h dk qu qal qarr med cs cal carr rqs mf cps sv ul tm hd up wy sd il) (e0 : h (fh_ed E) = none) (e1 : h1 (fh_ed E) = none) (F : Fr h h1 (fun b => b = a)) (ha : h a = some (.inr (i, fs))) (hi : i = 6 ∨ (i = 1 ∧ ∀ c ∈ cps, c.1 ≠ a)) : DKs E h1 dk qu qal qarr med cs cal carr rqs mf cps sv ul tm hd up wy sd il := by
  have hD0 := hD
  obtain ⟨hd0, hQ, hm, hC, hsv, hnd, hqc, hqa⟩ := hD
  obtain ⟨m1, kq⟩ := hQ.2.1.al
  obtain ⟨m2, kc⟩ := hC.2.1.al
  have h5 : (5 : Nat) ≠ i := by omega
  have h4 : (4 : Nat) ≠ i := by omega
  have h0 : (0 : Nat) ≠ i := by omega
  have h3 : (3 : Nat) ≠ i := by omega
  have h2 : (2 : Nat) ≠ i := by omega
  refine hD0.keep e1 F (fh_ne hd0 ha h5) (fh_ne hQ.1 ha h4) (fh_ne kq ha h0) (fun e he z => hQ.2.1.neO e0 ha z.symm) (fun r hr => fh_ne (hQ.2.2 r hr) ha h3) (fh_neA hm ha) (fh_ne hC.1 ha h2) (fh_ne kc ha h0) (fun e he z => hC.2.1.neO e0 ha z.symm) (fun r hr => ?_) (fun r z => fh_ne (hsv r z).1 ha h3)
  rcases hi with z | z
  · exact fh_ne (hC.2.2 r hr) ha (by omega)
  · exact z.2 r hr
section BK
variable {E : fh_E} {h h1 : fh_H} {bl bcs bal barr dk qu qal qarr med cs cal carr : Nat} {bps : List tC} {rqs : List tQ} {mf : Nat → Int32} {cps : List tC} {sv : Option tQ} {ul tm hd up wy sd il nn hi mi ev ab : Int32}
theorem BLs.ext {q : Nat} {e : va_E} (hS : BLs E h bl bcs bal barr dk qu qal qarr med cs cal carr bps rqs mf cps sv ul tm hd up wy sd il nn hi mi ev ab) (e1 : h1 (fh_ed E) = none) (hq : h q = none) (hh : h1 = va_up h q (some e)) : BLs E h1 bl bcs bal barr dk qu qal qarr med cs cal carr bps rqs mf cps sv ul tm hd up wy sd il nn hi mi ev ab := by
  obtain ⟨hb0, hBC, hDK, a1, a2, a3, a4, a5, a6⟩ := hS
  have F : Fr h h1 (fun b => b = q) := fun b e hb n => by rw [hh, va_up_ne _ _ n]; exact hb
  have hDK0 := hDK
  obtain ⟨hd0, hQ, hm, hC, hsv, hnd, hqc, hqa⟩ := hDK
  obtain ⟨m1, kq⟩ := hQ.2.1.al
  obtain ⟨m2, kc⟩ := hC.2.1.al
  obtain ⟨m3, kb⟩ := hBC.2.1.al
  refine ⟨F _ _ hb0 (fh_neF hb0 hq), hBC.keep F (fh_neF hBC.1 hq) (fh_neF kb hq) (fun e he => fh_neF he hq) (fun r hr => fh_neF (hBC.2.2 r hr) hq), hDK0.keep e1 F (fh_neF hd0 hq) (fh_neF hQ.1 hq) (fh_neF kq hq) (fun e he => fh_neF he hq) (fun r hr => fh_neF (hQ.2.2 r hr) hq) (fh_neF hm hq) (fh_neF hC.1 hq) (fh_neF kc hq) (fun e he => fh_neF he hq) (fun r hr => fh_neF (hC.2.2 r hr) hq) (fun r z => fh_neF (hsv r z).1 hq), a1, a2, a3, fun x hx => ?_, a5, a6⟩
  obtain ⟨y, hy⟩ := hBC.2.1.back e1 hx
  exact a4 _ hy
/-- the layer's own fields -/
theorem BLs.upB {nn2 hi2 mi2 ev2 ab2 : Int32} (hS : BLs E h bl bcs bal barr dk qu qal qarr med cs cal carr bps rqs mf cps sv ul tm hd up wy sd il nn hi mi ev ab) (e0 : h (fh_ed E) = none) (e1 : h1 (fh_ed E) = none) (hh : h1 = va_up h bl (some (.inr (6, [.ref bcs, .ref dk, .int nn2, .int hi2, .int mi2, .int ev2, .int ab2])))) : BLs E h1 bl bcs bal barr dk qu qal qarr med cs cal carr bps rqs mf cps sv ul tm hd up wy sd il nn2 hi2 mi2 ev2 ab2 := by
  obtain ⟨hb0, hBC, hDK, a1, a2, a3, a4, a5, a6⟩ := hS
  have F : Fr h h1 (fun b => b = bl) := fun b e hb n => by rw [hh, va_up_ne _ _ n]; exact hb
  obtain ⟨m3, kb⟩ := hBC.2.1.al
  refine ⟨by rw [hh]; exact va_up_self _ _ _, hBC.keep F (fh_ne hBC.1 hb0 (by decide)) (fh_ne kb hb0 (by decide)) (fun e he z => hBC.2.1.neO e0 hb0 z.symm) (fun r hr => fh_ne (hBC.2.2 r hr) hb0 (by decide)), hDK.keepO e0 e1 F hb0 (Or.inl rfl), a1, a2, a3, fun x hx => ?_, a5, a6⟩
  obtain ⟨y, hy⟩ := hBC.2.1.back e1 hx
  exact a4 _ hy
/-- the disk's part is changed -/
theorem BLs.disk {qarr2 carr2 r9 : Nat} {rqs2 : List tQ} {mf2 : Nat → Int32} {cps2 : List tC} {sv2 : Option tQ} {ul2 tm2 hd2 up2 wy2 sd2 il2 : Int32} (hS : BLs E h bl bcs bal barr dk qu qal qarr med cs cal carr bps rqs mf cps sv ul tm hd up wy sd il nn hi mi ev ab) (e0 : h (fh_ed E) = none) (e1 : h1 (fh_ed E) = none)
    (k9 : r9 = dk ∨ ∃ fs, h r9 = some (.inr (3, fs))) (D1 : DKs E h1 dk qu qal qarr2 med cs cal carr2 rqs2 mf2 cps2 sv2 ul2 tm2 hd2 up2 wy2 sd2 il2) (F : Fr h h1 (fun b => b = dk ∨ b = cal ∨ b = carr ∨ b = med ∨ b = r9 ∨ b = qal ∨ b = qarr)) (Nc : NewA h carr carr2) (Nq : NewA h qarr qarr2) (hc : ∀ b ∈ bps, ∀ c ∈ cps2, b.1 ≠ c.1) : BLs E h1 bl bcs bal barr dk qu qal qarr2 med cs cal carr2 bps rqs2 mf2 cps2 sv2 ul2 tm2 hd2 up2 wy2 sd2 il2 nn hi mi ev ab := by
  obtain ⟨hb0, hBC, hDK, a1, a2, a3, a4, a5, a6⟩ := hS
  obtain ⟨hd0, hQ, hm, hC, hsv, hnd, hqc, hqa⟩ := hDK
  obtain ⟨m1, kq⟩ := hQ.2.1.al
  obtain ⟨m2, kc⟩ := hC.2.1.al
  obtain ⟨m3, kb⟩ := hBC.2.1.al
  have ob : ∀ {a i : Nat} {fs : List Value}, h a = some (.inr (i, fs)) → i ≠ 5 → i ≠ 3 → (i = 0 → a ≠ cal ∧ a ≠ qal) → ¬ (a = dk ∨ a = cal ∨ a = carr ∨ a = med ∨ a = r9 ∨ a = qal ∨ a = qarr) := by
    intro a i fs ha i5 i3 i0 z
    rcases z with z | z | z | z | z | z | z
    · exact fh_ne ha hd0 i5 z
    · by_cases w : i = 0
      · exact (i0 w).1 z
      · exact fh_ne ha kc w z
    · exact hC.2.1.neO e0 ha z
    · exact fh_neA hm ha z.symm
    · rcases k9 with k9 | ⟨fs9, k9⟩
      · exact fh_ne ha hd0 i5 (z.trans k9)
      · exact fh_ne ha k9 i3 z
    · by_cases w : i = 0
      · exact (i0 w).2 z
      · exact fh_ne ha kq w z
    · exact hQ.2.1.neO e0 ha z
  have a4' : ∀ x, h barr = some x → ¬ (barr = dk ∨ barr = cal ∨ barr = carr ∨ barr = med ∨ barr = r9 ∨ barr = qal ∨ barr = qarr) := by
    intro x hx z
    rcases z with z | z | z | z | z | z | z
    · exact hBC.2.1.neO e0 hd0 z.symm
    · exact hBC.2.1.neO e0 kc z.symm
    · exact (a4 x hx).1 z
    · exact hBC.2.1.neI e0 hm z.symm
    · rcases k9 with k9 | ⟨fs9, k9⟩
      · exact hBC.2.1.neO e0 hd0 (z.trans k9).symm
      · exact hBC.2.1.neO e0 k9 z.symm
    · exact hBC.2.1.neO e0 kq z.symm
    · exact (a4 x hx).2 z
  refine ⟨F _ _ hb0 (ob hb0 (by decide) (by decide) (fun z => by cases z)), hBC.keep F (ob hBC.1 (by decide) (by decide) (fun z => by cases z)) (ob kb (by decide) (by decide) (fun _ => ⟨a2, a3⟩)) a4' (fun r hr => ob (hBC.2.2 r hr) (by decide) (by decide) (fun z => by cases z)), D1, a1, a2, a3, fun x hx => ?_, a5, hc⟩
  obtain ⟨y, hy⟩ := hBC.2.1.back e1 hx
  exact ⟨ad_new hBC.2.1 (fun x hx => (a4 x hx).1) e1 Nc x hx, ad_new hBC.2.1 (fun x hx => (a4 x hx).2) e1 Nq x hx⟩
/-- a request joins the queue -/
theorem DKs.addQ {qarr2 : Nat} {r9 : tQ} (hD : DKs E h dk qu qal qarr med cs cal carr rqs mf cps sv ul tm hd up wy sd il) (e0 : h (fh_ed E) = none) (e1 : h1 (fh_ed E) = none) (hn : r9.1 ∉ rqs.map (·.1)) (hn2 : ∀ r, sv = some r → r.1 ≠ r9.1) (hQ2 : QLs E h1 qu qal qarr2 (rqs ++ [r9])) (L : LFr h h1 qal qarr qarr2) : DKs E h1 dk qu qal qarr2 med cs cal carr (rqs ++ [r9]) mf cps sv ul tm hd up wy sd il := by
  obtain ⟨hd0, hQ, hm, hC, hsv, hnd, hqc, hqa⟩ := hD
  obtain ⟨m1, kq⟩ := hQ.2.1.al
  obtain ⟨m2, kc⟩ := hC.2.1.al
  have har := hQ.2.1.isArr e0
  have F : Fr h h1 (fun b => b = qal ∨ b = qarr) := fun b e hb n => by
    refine (L.1 b (fun z => n (Or.inl z)) (fun z => n (Or.inr z)) (fun z => ?_)).trans hb
    rcases L.2.1 with w | w
    · exact n (Or.inr (z.trans w))
    · rw [z, w] at hb; cases hb
  have ob : ∀ {a i : Nat} {fs : List Value}, h a = some (.inr (i, fs)) → (i = 0 → a ≠ qal) → ¬ (a = qal ∨ a = qarr) := by
    intro a i fs ha i0 z
    rcases z with z | z
    · by_cases w : i = 0
      · exact i0 w z
      · exact fh_ne ha kq w z
    · exact hQ.2.1.neO e0 ha z
  refine ⟨F _ _ hd0 (ob hd0 (fun z => by cases z)), hQ2, F _ _ hm (fun z => z.elim (fun z => fh_neA hm kq z) (fun z => hQ.2.1.neI e0 hm z)), hC.keep F (ob hC.1 (fun z => by cases z)) (ob kc (fun _ z => hqc z.symm)) (fun e he z => z.elim (fun z => hC.2.1.neO e0 kq z.symm) (fun z => hqa e (by rw [← z]; exact he) z.symm)) (fun r hr => ob (hC.2.2 r hr) (fun z => by cases z)), fun r z => ⟨F _ _ (hsv r z).1 (ob (hsv r z).1 (fun z => by cases z)), fun w => ?_⟩, ?_, hqc, fun x hx z => ?_⟩
  · rw [List.map_append, List.mem_append] at w
    rcases w with w | w
    · exact (hsv r z).2 w
    · exact hn2 r z (List.mem_singleton.mp w)
  · rw [List.map_append, List.nodup_append]
    exact ⟨hnd, by simp, fun a ha b hb => by
      rw [List.map_singleton, List.mem_singleton] at hb
      intro z; rw [z, hb] at ha; exact hn ha⟩
  · rcases L.2.1 with w | w
    · rw [w] at z hx
      obtain ⟨y, hy⟩ := hQ.2.1.back e1 hx
      exact hqa _ hy z
    · rcases hC.2.1.or with v | ⟨y, v⟩
      · rw [z, v, e1] at hx; cases hx
      · rw [z, v] at w; cases w
end BK

set_option maxHeartbeats 4000000 in
set_option maxRecDepth 100000 in
theorem c_BL_makeRequest (l : Launch) (E : fh_E) (h : fh_H) (bl bcs bal barr dk qu qal qarr med cs cal carr : Nat) (bps : List tC) (rqs : List tQ) (mf : Nat → Int32) (cps : List tC) (sv : Option tQ) (ul tm hd up wy sd il nn hi mi ev ab : Int32) (hS0 : BLs E h bl bcs bal barr dk qu qal qarr med cs cal carr bps rqs mf cps sv ul tm hd up wy sd il nn hi mi ev ab) (hb10 : bps.length ≤ 10) (hq41 : rqs.length ≤ 41) (hc6 : cps.length ≤ 6) (k b v : Int32) : fh_Met l y_BL_makeRequest w_BL_makeRequest ({ frames := 8, cells := 2, slots := 79, locals := 212 }) E [.ref bl, .int k, .int b, .int v] h (fun r h1 => ∃ q qarr', r = some (.ref q) ∧ BLs E h1 bl bcs bal barr dk qu qal (qarr') med cs cal carr bps (rqs ++ [(q, nn, k, b, tm, v)]) mf cps sv ul tm hd up wy sd il (nn + 1) hi mi ev ab ∧ h q = none ∧ Fr h h1 (fun b => b = bl ∨ b = qal ∨ b = qarr) ∧ Dm h h1 ∧ NewA h qarr qarr') 2 79 := by
  refine fh_ofW (cc := b_BL_makeRequest) (maxL := 5) (ret := (some (.object "BlockLayer$Request"))) (by decide) rfl (Nat.le_of_ble_eq_true rfl) ?_
  intro p e s m below meth c A ls hx hb hr hml hown hts hlocks hname hnoh hadm hA hK hZ hP hS hl
  have hG : ∀ w ∈ G, w.before _ s = true := fun w hw => hts w (List.mem_cons_of_mem _ hw)
  have hown : s.vm.findClass R_BL = some m.cls := hown
  have hl : lv_has ls 5 [(0, .ref bl), (1, .int k), (2, .int b), (3, .int v)] := hl
  have hS1 := hS0
  obtain ⟨hb0, hBC, hDK, hap⟩ := hS0
  have hDK0 := hDK
  obtain ⟨hd0, hQ, hm, hC, hsv, hnd, hqc, hqa⟩ := hDK
  have kqu := hQ.1
  have kcs := hC.1
  have kbc := hBC.1
  have hed := hZ.edn hP
  refine fh_new hx hb hG C_RQ iG_RQ hown gm546 gm547 gm17 hK hP hS hA (fs := [.int 0, .int 0, .int 0, .int 0, .int 0, .int 0]) (fun j hj => by rcases (show j = 0 ∨ j = 1 ∨ j = 2 ∨ j = 3 ∨ j = 4 ∨ j = 5 by omega) with rfl | rfl | rfl | rfl | rfl | rfl <;> rfl) (Nat.le_of_ble_eq_true rfl) (Nat.le_of_ble_eq_true rfl) d_BL_makeRequest_0 (fun q H hf_1 hP hS => ?_)
  obtain ⟨h_2, eh_3⟩ : ∃ z : fh_H, z = va_up h q (some (.inr (3, [.int 0, .int 0, .int 0, .int 0, .int 0, .int 0]))) := ⟨_, rfl⟩
  have hP : fh_P E.1 vwCl A h_2 H := by rw [eh_3]; exact hP
  have k_4 : h_2 bl = some (.inr (6, [.ref bcs, .ref dk, .int nn, .int hi, .int mi, .int ev, .int ab])) := by rw [eh_3]; exact fh_up hb0 (fh_neF hb0 hf_1)
  have k_5 : h_2 dk = some (.inr (5, [.ref qu, .ref med, .ref cs, va_rf (sv.map (·.1)), .int ul, .int tm, .int hd, .int up, .int wy, .int sd, .int il])) := by rw [eh_3]; exact fh_up hd0 (fh_neF hd0 hf_1)
  have k_6 : h_2 qu = some (.inr (4, [.ref qal])) := by rw [eh_3]; exact fh_up kqu (fh_neF kqu hf_1)
  have k_7 : h_2 cs = some (.inr (2, [.ref cal])) := by rw [eh_3]; exact fh_up kcs (fh_neF kcs hf_1)
  have k_8 : h_2 bcs = some (.inr (2, [.ref bal])) := by rw [eh_3]; exact fh_up kbc (fh_neF kbc hf_1)
  have k_9 : h_2 q = some (.inr (3, [.int 0, .int 0, .int 0, .int 0, .int 0, .int 0])) := by rw [eh_3]; exact va_up_self _ _ _
  have ed1 := hZ.edn hP
  have S1 := hS1.ext ed1 hf_1 eh_3
  refine lv_dup hx hb d_BL_makeRequest_3 rfl ?_
  refine lv_aload_n hx hb d_BL_makeRequest_4 rfl (lv_at hl 0 rfl) ?_
  refine fh_get hx hb hG C_BL iG_BL hown hK hP k_4 2 (by decide) gm132 rfl d_BL_makeRequest_5 ?_
  refine lv_iload_n hx hb d_BL_makeRequest_8 rfl (lv_at hl 1 rfl) ?_
  refine lv_iload_n hx hb d_BL_makeRequest_9 rfl (lv_at hl 2 rfl) ?_
  refine lv_iload_n hx hb d_BL_makeRequest_10 rfl (lv_at hl 3 rfl) ?_
  refine lv_aload_n hx hb d_BL_makeRequest_11 rfl (lv_at hl 0 rfl) ?_
  refine fh_get hx hb hG C_BL iG_BL hown hK hP k_4 1 (by decide) gm131 rfl d_BL_makeRequest_12 ?_
  refine fh_get hx hb hG C_DK iG_DK hown hK hP k_5 5 (by decide) gm95 rfl d_BL_makeRequest_15 ?_
  refine fh_callI (b := q) (y := y_RQ_init) (bytes := b_RQ_init) (maxL := 6) (index := 190) (As := [.int nn, .int k, .int b, .int v, .int tm]) (rest := [.ref q]) ⟨hx, hb, hml, hown, hG⟩ (c_RQ_init l E h_2 q nn k b v tm _ _ _ _ _ _ k_9) (cwI 5 hG (gB gm550) rfl rfl rfl (hG _ gm17) (hG _ gm548) (hG _ gm549) rfl hdy_RQ_init ⟨Nat.le_of_ble_eq_true rfl, Nat.le_of_ble_eq_true rfl⟩) hK hZ hP hS hA rfl hl.1 rfl (Nat.le_of_ble_eq_true rfl) d_BL_makeRequest_18 ⟨Nat.le_of_ble_eq_true rfl, Nat.le_of_ble_eq_true rfl⟩ (fun r h1 H locs hq9 hP hS => ?_)
  obtain ⟨rfl, e9⟩ := hq9
  refine W.eq (g2 := F0 m 21 ls [.ref q]) rfl ?_
  have k9 : h1 q = some (.inr (3, [.int nn, .int k, .int b, .int tm, .int v, .int 0])) := by rw [e9]; exact va_up_self _ _ _
  have ed2 := hZ.edn hP
  have e8 : h1 = va_up h q (some (.inr (3, [.int nn, .int k, .int b, .int tm, .int v, .int 0]))) := by rw [e9, eh_3, bx_uu]
  have S2 := hS1.ext ed2 hf_1 e8
  have kb2 := S2.1
  have kd2 := S2.2.2.1.1
  have kq2 := S2.2.2.1.2.1.1
  refine lv_astore (lv' := [(4, .ref q), (0, .ref bl), (1, .int k), (2, .int b), (3, .int v)]) hx hb d_BL_makeRequest_21 hl (by decide) rfl (fun ls hl => ?_)
  refine lv_aload_n hx hb d_BL_makeRequest_23 rfl (lv_at hl 1 rfl) ?_
  refine lv_dup hx hb d_BL_makeRequest_24 rfl ?_
  refine fh_get hx hb hG C_BL iG_BL hown hK hP kb2 2 (by decide) gm132 rfl d_BL_makeRequest_25 ?_
  refine lv_iconst (v := 1) hx hb d_BL_makeRequest_28 (by decide) ?_
  refine lv_iadd hx hb d_BL_makeRequest_29 ?_
  refine fh_put hx hb hG C_BL iG_BL hown hK hP hS kb2 2 (by decide) gm132 rfl (v := .int (nn + 1)) rfl rfl (Nat.le_of_ble_eq_true rfl) d_BL_makeRequest_30 (fun H locs hP hS => ?_)
  obtain ⟨h_10, eh_11⟩ : ∃ z : fh_H, z = va_up h1 bl (some (.inr (6, [.ref bcs, .ref dk, .int (nn + 1), .int hi, .int mi, .int ev, .int ab]))) := ⟨_, rfl⟩
  have hP : fh_P E.1 vwCl A h_10 H := by rw [eh_11]; exact hP
  have k_12 : h_10 dk = some (.inr (5, [.ref qu, .ref med, .ref cs, va_rf (sv.map (·.1)), .int ul, .int tm, .int hd, .int up, .int wy, .int sd, .int il])) := by rw [eh_11]; exact fh_up kd2 (fh_ne kd2 kb2 (by decide))
  have k_13 : h_10 qu = some (.inr (4, [.ref qal])) := by rw [eh_11]; exact fh_up kq2 (fh_ne kq2 kb2 (by decide))
  have k_14 : h_10 q = some (.inr (3, [.int nn, .int k, .int b, .int tm, .int v, .int 0])) := by rw [eh_11]; exact fh_up k9 (fh_ne k9 kb2 (by decide))
  have k_15 : h_10 bl = some (.inr (6, [.ref bcs, .ref dk, .int (nn + 1), .int hi, .int mi, .int ev, .int ab])) := by rw [eh_11]; exact va_up_self _ _ _
  have ed3 := hZ.edn hP
  have S3 := S2.upB (nn2 := nn + 1) (hi2 := hi) (mi2 := mi) (ev2 := ev) (ab2 := ab) ed2 ed3 eh_11
  refine lv_aload_n hx hb d_BL_makeRequest_33 rfl (lv_at hl 1 rfl) ?_
  refine fh_get hx hb hG C_BL iG_BL hown hK hP k_15 1 (by decide) gm131 rfl d_BL_makeRequest_34 ?_
  refine fh_get hx hb hG C_DK iG_DK hown hK hP k_12 0 (by decide) gm88 rfl d_BL_makeRequest_37 ?_
  refine lv_aload hx hb d_BL_makeRequest_40 (lv_at hl 0 rfl) ?_
  refine fh_callV (C := R_QU) (y := y_QU_add) (bytes := b_QU_add) (maxL := 2) (ret := none) (index := 193) (As := [.ref q]) (rest := []) ⟨hx, hb, hml, hown, hG⟩ (c_QU_add l E h_10 qu qal qarr rqs S3.2.2.1.2.1 (by omega) (q, nn, k, b, tm, v) k_14) (cwV 1 hG (gV gm584 gm585 gm586 gm7 gm587) rfl rfl rfl ⟨rfl, hdy_QU_add⟩ ⟨Nat.le_of_ble_eq_true rfl, Nat.le_of_ble_eq_true rfl⟩) C_QU.1 k_13 hK hZ hP hS hA rfl hl.1 rfl (Nat.le_of_ble_eq_true rfl) d_BL_makeRequest_42 ⟨Nat.le_of_ble_eq_true rfl, Nat.le_of_ble_eq_true rfl⟩ (fun r h2 H locs hq9 hP hS => ?_)
  obtain ⟨rfl, qarr1, g1, g2⟩ := hq9
  refine W.eq (g2 := F0 m 45 ls []) rfl ?_
  refine lv_aload hx hb d_BL_makeRequest_45 (lv_at hl 0 rfl) ?_
  have ed4 := hZ.edn hP
  have hn1 : (q : Nat) ∉ rqs.map (·.1) := fun w => by
    obtain ⟨r, hr, z⟩ := List.mem_map.mp w
    have := hQ.2.2 r hr
    rw [z, hf_1] at this; cases this
  have hn2 : ∀ r, sv = some r → r.1 ≠ q := fun r z w => by
    have := (hsv r z).1
    unfold R1 at this
    rw [w, hf_1] at this; cases this
  have D4 := S3.2.2.1.addQ (r9 := (q, nn, k, b, tm, v)) ed3 ed4 hn1 hn2 g1 g2
  have F4 : Fr h_10 h2 (fun b => b = qal ∨ b = qarr) := fun b e hb n => by
    refine (g2.1 b (fun z => n (Or.inl z)) (fun z => n (Or.inr z)) (fun z => ?_)).trans hb
    rcases g2.2.1 with w | w
    · exact n (Or.inr (z.trans w))
    · rw [z, w] at hb; cases hb
  have S4 := S3.disk ed3 ed4 (Or.inl rfl) D4 (F4.mono (fun b z => by omega)) (Or.inl rfl) g2.2.1 S3.2.2.2.2.2.2.2.2
  have D03 : Dm h h_10 := (dm_up e8).trans (dm_up eh_11)
  have F03 : Fr h h_10 (fun b => b = bl) := fun b e hb n => by rw [eh_11, va_up_ne _ _ n, e8, va_up_ne _ _ (fh_neF hb hf_1)]; exact hb
  exact fh_aret hx hb hr (Or.inl ⟨_, rfl⟩) (Or.inr ⟨_, rfl⟩) hlocks (Nat.le_of_ble_eq_true rfl) (Nat.le_of_ble_eq_true rfl) hP hS ⟨q, qarr1, rfl, S4, hf_1, F03.trans F4 (fun b z => Or.inl z) (fun b _ z => Or.inr z), D03.trans g2.2.2, g2.2.1.imp id (D03 _)⟩ d_BL_makeRequest_47
