/-! THE DISK AS A WHOLE; the end of a request. -/
def R1 (h : fh_H) (r : tQ) : Prop := h r.1 = some (.inr (3, [.int r.2.1, .int r.2.2.1, .int r.2.2.2.1, .int r.2.2.2.2.1, .int r.2.2.2.2.2, .int 0]))
def DKs (E : fh_E) (h : fh_H) (dk qu qal qarr med cs cal carr : Nat) (rqs : List tQ) (mf : Nat → Int32) (cps : List tC) (sv : Option tQ) (ul tm hd up wy sd il : Int32) : Prop :=
  h dk = some (.inr (5, [.ref qu, .ref med, .ref cs, va_rf (sv.map (·.1)), .int ul, .int tm, .int hd, .int up, .int wy, .int sd, .int il])) ∧ QLs E h qu qal qarr rqs ∧ h med = some (.inl (fh_cI E, 256, .inl mf)) ∧ CLs E h cs cal carr cps ∧ (∀ r, sv = some r → R1 h r ∧ r.1 ∉ rqs.map (·.1)) ∧ (rqs.map (·.1)).Nodup ∧ qal ≠ cal ∧ (∀ x, h qarr = some x → qarr ≠ carr)
/-- what a change leaves: all that is told not to be in X -/
def Fr (h h1 : fh_H) (X : Nat → Prop) : Prop := ∀ b e, h b = some e → ¬ X b → h1 b = some e
def NewA (h : fh_H) (a a' : Nat) : Prop := a' = a ∨ h a' = none
theorem QLs.keep {E : fh_E} {h h1 : fh_H} {qu qal qarr : Nat} {rqs : List tQ} {X : Nat → Prop} (hQ : QLs E h qu qal qarr rqs) (F : Fr h h1 X) (x1 : ¬ X qu) (x2 : ¬ X qal) (x3 : ∀ e, h qarr = some e → ¬ X qarr) (x4 : ∀ r ∈ rqs, ¬ X r.1) : QLs E h1 qu qal qarr rqs := by
  obtain ⟨k1, k2, k3⟩ := hQ
  obtain ⟨md, k4⟩ := k2.al
  exact ⟨F _ _ k1 x1, k2.frame ((F _ _ k4 x2).trans k4.symm) (fun ⟨x, hx⟩ => (F _ _ hx (x3 x hx)).trans hx.symm), fun r hr => F _ _ (k3 r hr) (x4 r hr)⟩
theorem CLs.keep {E : fh_E} {h h1 : fh_H} {cs al arr : Nat} {cps : List tC} {X : Nat → Prop} (hQ : CLs E h cs al arr cps) (F : Fr h h1 X) (x1 : ¬ X cs) (x2 : ¬ X al) (x3 : ∀ e, h arr = some e → ¬ X arr) (x4 : ∀ r ∈ cps, ¬ X r.1) : CLs E h1 cs al arr cps := by
  obtain ⟨k1, k2, k3⟩ := hQ
  obtain ⟨md, k4⟩ := k2.al
  exact ⟨F _ _ k1 x1, k2.frame ((F _ _ k4 x2).trans k4.symm) (fun ⟨x, hx⟩ => (F _ _ hx (x3 x hx)).trans hx.symm), fun r hr => F _ _ (k3 r hr) (x4 r hr)⟩
/-- the array of a list is no object, and no array of ints -/
theorem LI.neO {E : fh_E} {h : fh_H} {al arr a i : Nat} {fs : List Value} {xs : List Nat} (hL : LI E h al arr xs) (hed : h (fh_ed E) = none) (ha : h a = some (.inr (i, fs))) : a ≠ arr := by
  intro z
  obtain ⟨x, hx⟩ := hL.isArr hed ⟨_, by rw [← z]; exact ha⟩
  rw [← z, ha] at hx; cases hx
theorem LI.neI {E : fh_E} {h : fh_H} {al arr a n : Nat} {c : ClassId} {f : Nat → Int32} {xs : List Nat} (hL : LI E h al arr xs) (hed : h (fh_ed E) = none) (ha : h a = some (.inl (c, n, .inl f))) : a ≠ arr := by
  intro z
  obtain ⟨md, cap, g, k1, k2, k3, k4, k5⟩ := hL
  rcases k5 with ⟨k5, -⟩ | ⟨-, k6⟩
  · rw [z, k5, hed] at ha; cases ha
  · rw [z, k6] at ha; cases ha
def endT (mf : Nat → Int32) (cps : List tC) (r : tQ) (q : Nat) : (Nat → Int32) × List tC :=
  if r.2.2.1 = 0 then (mf, cps) else if r.2.2.1 = 1 then movT mf (cps.eraseP (fun d => d.2.1 == r.2.2.2.1) ++ [(q, r.2.2.2.1, r.2.2.2.2.2, 0)]) ((cps.eraseP (fun d => d.2.1 == r.2.2.2.1)).length + 1 - 6) else movT mf cps cps.length
def endV (mf : Nat → Int32) (cps : List tC) (r : tQ) : Int32 := if r.2.2.1 = 0 then vin mf cps r.2.2.2.1 else r.2.2.2.2.2
theorem sub6 {n : Nat} (h : n ≤ 48) : nI n - 6 = nI (n - 6) ∨ (n - 6 = 0 ∧ nI n - 6 ≤ 0) := by
  rcases Nat.lt_or_ge n 6 with z | z
  · refine Or.inr ⟨by omega, ?_⟩
    have : ∀ n, n < 6 → nI n - 6 ≤ 0 := by decide +kernel
    exact this n z
  · exact Or.inl (pk_sub (b := 6) z)
theorem ad_new {E : fh_E} {h h1 : fh_H} {al arr a a' : Nat} {xs : List Nat} (hL : LI E h al arr xs) (hqa : ∀ x, h arr = some x → arr ≠ a) (e1 : h1 (fh_ed E) = none) (N : NewA h a a') : ∀ x, h1 arr = some x → arr ≠ a' := by
  intro x hx9 z
  obtain ⟨md3, cap3, f3, j1, j2, j3, j4, j5⟩ := hL
  rcases j5 with ⟨j5, -⟩ | ⟨-, j6⟩
  · rw [j5, e1] at hx9; cases hx9
  · rcases N with n | n
    · exact hqa _ j6 (z.trans n)
    · rw [← z, j6] at n; cases n
theorem eraseP_len {cps : List tC} {p : tC → Bool} : (cps.eraseP p).length ≤ cps.length := List.length_eraseP_le
theorem dm_mv {E : fh_E} {h h1 : fh_H} {al arr med : Nat} {x : va_E} {xs : List Nat} (hF : ∀ b, b ≠ al → b ≠ arr → b ≠ med → h1 b = h b) (hL : LI E h1 al arr xs) (hm : h1 med = some x) (hed : h (fh_ed E) = none) : Dm h h1 := fun b hb => by
  obtain ⟨md, cap, f, k1, k2, k3, k4, k5⟩ := hL
  by_cases z1 : b = al
  · rw [z1, k1] at hb; cases hb
  · by_cases z3 : b = med
    · rw [z3, hm] at hb; cases hb
    · by_cases z2 : b = arr
      · rcases k5 with ⟨k5, -⟩ | ⟨-, k6⟩
        · rw [z2, k5]; exact hed
        · rw [z2, k6] at hb; cases hb
      · rw [hF b z1 z2 z3] at hb; exact hb

set_option maxHeartbeats 4000000 in
set_option maxRecDepth 100000 in
theorem c_DK_end (l : Launch) (E : fh_E) (h : fh_H) (dk qu qal qarr med cs cal carr : Nat) (rqs : List tQ) (mf : Nat → Int32) (cps : List tC) (r9 : tQ) (ul tm hd up wy sd il : Int32) (hD : DKs E h dk qu qal qarr med cs cal carr rqs mf cps (some r9) ul tm hd up wy sd il) (hq41 : rqs.length ≤ 41) (hc6 : cps.length ≤ 6) (hB : ∀ c ∈ cps, bOK c.2.1) (h9B : r9.2.2.1 ≠ 2 → bOK r9.2.2.2.1) (h9k : r9.2.2.1 = 0 ∨ r9.2.2.1 = 1 ∨ r9.2.2.1 = 2) : fh_Met l y_DK_end w_DK_end ({ frames := 8, cells := 2, slots := 76, locals := 213 }) E [.ref dk, .ref r9.1] h (fun r h1 => r = none ∧ ∃ q carr', DKs E h1 dk qu qal qarr med cs cal (carr') rqs ((endT mf cps r9 q).1) ((endT mf cps r9 q).2) none ul tm hd up wy (sd + 1) il ∧ NewA h carr carr' ∧ h1 r9.1 = some (.inr (3, [.int r9.2.1, .int r9.2.2.1, .int r9.2.2.2.1, .int r9.2.2.2.2.1, .int (endV mf cps r9), .int 1])) ∧ Fr h h1 (fun b => b = dk ∨ b = cal ∨ b = carr ∨ b = med ∨ b = r9.1) ∧ Dm h h1 ∧ h q = none) 2 76 := by
  refine fh_ofW (cc := b_DK_end) (maxL := 2) (ret := none) (by decide) rfl (Nat.le_of_ble_eq_true rfl) ?_
  intro p e s m below meth c A ls hx hb hr hml hown hts hlocks hname hnoh hadm hA hK hZ hP hS hl
  have hG : ∀ w ∈ G, w.before _ s = true := fun w hw => hts w (List.mem_cons_of_mem _ hw)
  have hown : s.vm.findClass R_DK = some m.cls := hown
  have hl : lv_has ls 2 [(0, .ref dk), (1, .ref r9.1)] := hl
  obtain ⟨hd0, hQ, hm, hC, hsv, hnd, hqc, hqa⟩ := hD
  have hr9 := (hsv r9 rfl).1
  have hr8 := (hsv r9 rfl).2
  have hed := hZ.edn hP
  obtain ⟨md, hal⟩ := hC.2.1.al
  obtain ⟨mdq, haq⟩ := hQ.2.1.al
  have hcs := hC.1
  have hd0 : h dk = some (.inr (5, [.ref qu, .ref med, .ref cs, .ref r9.1, .int ul, .int tm, .int hd, .int up, .int wy, .int sd, .int il])) := hd0
  have hr9 : h r9.1 = some (.inr (3, [.int r9.2.1, .int r9.2.2.1, .int r9.2.2.2.1, .int r9.2.2.2.2.1, .int r9.2.2.2.2.2, .int 0])) := hr9
  refine lv_aload_n hx hb d_DK_end_0 rfl (lv_at hl 0 rfl) ?_
  refine lv_null hx hb d_DK_end_1 ?_
  refine fh_put hx hb hG C_DK iG_DK hown hK hP hS hd0 3 (by decide) gm92 rfl (v := .null) rfl rfl (Nat.le_of_ble_eq_true rfl) d_DK_end_2 (fun H locs hP hS => ?_)
  obtain ⟨h_1, eh_2⟩ : ∃ z : fh_H, z = va_up h dk (some (.inr (5, [.ref qu, .ref med, .ref cs, .null, .int ul, .int tm, .int hd, .int up, .int wy, .int sd, .int il]))) := ⟨_, rfl⟩
  have hP : fh_P E.1 vwCl A h_1 H := by rw [eh_2]; exact hP
  have k_3 : h_1 r9.1 = some (.inr (3, [.int r9.2.1, .int r9.2.2.1, .int r9.2.2.2.1, .int r9.2.2.2.2.1, .int r9.2.2.2.2.2, .int 0])) := by rw [eh_2]; exact fh_up hr9 (fh_ne hr9 hd0 (by decide))
  have k_4 : h_1 cs = some (.inr (2, [.ref cal])) := by rw [eh_2]; exact fh_up hcs (fh_ne hcs hd0 (by decide))
  have k_5 : h_1 med = some (.inl (fh_cI E, 256, .inl mf)) := by rw [eh_2]; exact fh_up hm (fh_neA hm hd0)
  have k_6 : h_1 dk = some (.inr (5, [.ref qu, .ref med, .ref cs, .null, .int ul, .int tm, .int hd, .int up, .int wy, .int sd, .int il])) := by rw [eh_2]; exact va_up_self _ _ _
  refine lv_aload_n hx hb d_DK_end_5 rfl (lv_at hl 0 rfl) ?_
  refine lv_dup hx hb d_DK_end_6 rfl ?_
  refine fh_get hx hb hG C_DK iG_DK hown hK hP k_6 9 (by decide) gm102 rfl d_DK_end_7 ?_
  refine lv_iconst (v := 1) hx hb d_DK_end_10 (by decide) ?_
  refine lv_iadd hx hb d_DK_end_11 ?_
  refine fh_put hx hb hG C_DK iG_DK hown hK hP hS k_6 9 (by decide) gm102 rfl (v := .int (sd + 1)) rfl rfl (Nat.le_of_ble_eq_true rfl) d_DK_end_12 (fun H locs hP hS => ?_)
  obtain ⟨h_7, eh_8⟩ : ∃ z : fh_H, z = va_up h_1 dk (some (.inr (5, [.ref qu, .ref med, .ref cs, .null, .int ul, .int tm, .int hd, .int up, .int wy, .int (sd + 1), .int il]))) := ⟨_, rfl⟩
  have hP : fh_P E.1 vwCl A h_7 H := by rw [eh_8]; exact hP
  have k_9 : h_7 r9.1 = some (.inr (3, [.int r9.2.1, .int r9.2.2.1, .int r9.2.2.2.1, .int r9.2.2.2.2.1, .int r9.2.2.2.2.2, .int 0])) := by rw [eh_8]; exact fh_up k_3 (fh_ne k_3 k_6 (by decide))
  have k_10 : h_7 cs = some (.inr (2, [.ref cal])) := by rw [eh_8]; exact fh_up k_4 (fh_ne k_4 k_6 (by decide))
  have k_11 : h_7 med = some (.inl (fh_cI E, 256, .inl mf)) := by rw [eh_8]; exact fh_up k_5 (fh_neA k_5 k_6)
  have k_12 : h_7 dk = some (.inr (5, [.ref qu, .ref med, .ref cs, .null, .int ul, .int tm, .int hd, .int up, .int wy, .int (sd + 1), .int il])) := by rw [eh_8]; exact va_up_self _ _ _
  refine lv_aload_n hx hb d_DK_end_15 rfl (lv_at hl 1 rfl) ?_
  refine lv_iconst (v := 1) hx hb d_DK_end_16 (by decide) ?_
  refine fh_put hx hb hG C_RQ iG_RQ hown hK hP hS k_9 5 (by decide) gm570 rfl (v := .int 1) rfl rfl (Nat.le_of_ble_eq_true rfl) d_DK_end_17 (fun H locs hP hS => ?_)
  obtain ⟨h_13, eh_14⟩ : ∃ z : fh_H, z = va_up h_7 r9.1 (some (.inr (3, [.int r9.2.1, .int r9.2.2.1, .int r9.2.2.2.1, .int r9.2.2.2.2.1, .int r9.2.2.2.2.2, .int 1]))) := ⟨_, rfl⟩
  have hP : fh_P E.1 vwCl A h_13 H := by rw [eh_14]; exact hP
  have k_15 : h_13 dk = some (.inr (5, [.ref qu, .ref med, .ref cs, .null, .int ul, .int tm, .int hd, .int up, .int wy, .int (sd + 1), .int il])) := by rw [eh_14]; exact fh_up k_12 (fh_ne k_12 k_9 (by decide))
  have k_16 : h_13 cs = some (.inr (2, [.ref cal])) := by rw [eh_14]; exact fh_up k_10 (fh_ne k_10 k_9 (by decide))
  have k_17 : h_13 med = some (.inl (fh_cI E, 256, .inl mf)) := by rw [eh_14]; exact fh_up k_11 (fh_neA k_11 k_9)
  have k_18 : h_13 r9.1 = some (.inr (3, [.int r9.2.1, .int r9.2.2.1, .int r9.2.2.2.1, .int r9.2.2.2.2.1, .int r9.2.2.2.2.2, .int 1])) := by rw [eh_14]; exact va_up_self _ _ _
  have F3 : ∀ b, b ≠ dk → b ≠ r9.1 → h_13 b = h b := fun b z1 z2 => by rw [eh_14, va_up_ne _ _ z2, eh_8, va_up_ne _ _ z1, eh_2, va_up_ne _ _ z1]
  have F3b : Fr h h_13 (fun b => b = dk ∨ b = r9.1) := fun b e hb n => (F3 b (fun z => n (Or.inl z)) (fun z => n (Or.inr z))).trans hb
  have D3 : Dm h h_13 := fun b hb => by
    by_cases z1 : b = dk
    · rw [z1, k_15] at hb; cases hb
    · by_cases z2 : b = r9.1
      · rw [z2, k_18] at hb; cases hb
      · rw [F3 b z1 z2] at hb; exact hb
  have ed3 := hZ.edn hP
  have nCD : ∀ c ∈ cps, ¬ (c.1 = dk ∨ c.1 = r9.1) := fun c hc => by
    rintro (z | z)
    · exact fh_ne (hC.2.2 c hc) hd0 (by decide) z
    · exact fh_ne (hC.2.2 c hc) hr9 (by decide) z
  have hC3 : CLs E h_13 cs cal carr cps := hC.keep F3b (by rintro (z | z); exact fh_ne hcs hd0 (by decide) z; exact fh_ne hcs hr9 (by decide) z) (by rintro (z | z); exact fh_ne hal hd0 (by decide) z; exact fh_ne hal hr9 (by decide) z) (fun e _ => by rintro (z | z); exact hC.2.1.neO hed hd0 z.symm; exact hC.2.1.neO hed hr9 z.symm) nCD
  have nq1 : ∀ (h1 : fh_H), Fr h h1 (fun b => b = dk ∨ b = cal ∨ b = carr ∨ b = med ∨ b = r9.1) → QLs E h1 qu qal qarr rqs := fun h1 F => by
    refine hQ.keep F ?_ ?_ (fun e he => ?_) (fun r hr => ?_)
    · rintro (z | z | z | z | z)
      · exact fh_ne hQ.1 hd0 (by decide) z
      · exact fh_ne hQ.1 hal (by decide) z
      · exact hC.2.1.neO hed hQ.1 z
      · exact fh_neA hm hQ.1 z.symm
      · exact fh_ne hQ.1 hr9 (by decide) z
    · rintro (z | z | z | z | z)
      · exact fh_ne haq hd0 (by decide) z
      · exact hqc z
      · exact hC.2.1.neO hed haq z
      · exact fh_neA hm haq z.symm
      · exact fh_ne haq hr9 (by decide) z
    · rintro (z | z | z | z | z)
      · exact hQ.2.1.neO hed hd0 z.symm
      · exact hQ.2.1.neO hed hal z.symm
      · exact hqa e he z
      · exact hQ.2.1.neI hed hm z.symm
      · exact hQ.2.1.neO hed hr9 z.symm
    · have kr := hQ.2.2 r hr
      rintro (z | z | z | z | z)
      · exact fh_ne kr hd0 (by decide) z
      · exact fh_ne kr hal (by decide) z
      · exact hC.2.1.neO hed kr z
      · exact fh_neA hm kr z.symm
      · exact hr8 (by rw [← z]; exact List.mem_map.mpr ⟨r, hr, rfl⟩)
  refine lv_aload_n hx hb d_DK_end_20 rfl (lv_at hl 1 rfl) ?_
  refine fh_get hx hb hG C_RQ iG_RQ hown hK hP k_18 1 (by decide) gm556 rfl d_DK_end_21 ?_
  refine lv_if_ne (tgt := 42) hx hb d_DK_end_24 (by decide) (fun c_19 => ?_) (fun c_19 => ?_)
  · skip
    refine lv_aload_n hx hb d_DK_end_42 rfl (lv_at hl 1 rfl) ?_
    refine fh_get hx hb hG C_RQ iG_RQ hown hK hP k_18 1 (by decide) gm556 rfl d_DK_end_43 ?_
    refine lv_iconst (v := 1) hx hb d_DK_end_46 (by decide) ?_
    refine lv_icmp_ne (tgt := 89) hx hb d_DK_end_47 (by decide) (fun c_20 => ?_) (fun c_20 => ?_)
    · skip
      have he0 : ∀ q, endT mf cps r9 q = movT mf cps cps.length := fun q => by unfold endT; rw [if_neg c_19, if_neg c_20]
      have hv0 : endV mf cps r9 = r9.2.2.2.2.2 := by unfold endV; rw [if_neg c_19]
      obtain ⟨q, hq0⟩ : ∃ q, h q = none := ⟨_, hed⟩
      refine lv_aload_n hx hb d_DK_end_89 rfl (lv_at hl 0 rfl) ?_
      refine lv_aload_n hx hb d_DK_end_90 rfl (lv_at hl 0 rfl) ?_
      refine fh_get hx hb hG C_DK iG_DK hown hK hP k_15 2 (by decide) gm90 rfl d_DK_end_91 ?_
      refine fh_callV (C := R_CS) (y := y_CS_size) (bytes := b_CS_size) (maxL := 1) (ret := (some .int)) (index := 105) (As := []) (rest := [.ref dk]) ⟨hx, hb, hml, hown, hG⟩ (c_CS_size l E h_13 cs cal carr cps hC3 (by omega)) (cwV 0 hG (gV gm240 gm241 gm242 gm2 gm243) rfl rfl rfl ⟨rfl, hdy_CS_size⟩ ⟨Nat.le_of_ble_eq_true rfl, Nat.le_of_ble_eq_true rfl⟩) C_CS.1 k_16 hK hZ hP hS hA rfl hl.1 rfl (Nat.le_of_ble_eq_true rfl) d_DK_end_94 ⟨Nat.le_of_ble_eq_true rfl, Nat.le_of_ble_eq_true rfl⟩ (fun r h1 H locs hq9 hP hS => ?_)
      obtain ⟨rfl, e9⟩ := hq9
      rw [e9] at hP
      refine W.eq (g2 := F0 m 97 ls [.int (nI cps.length), .ref dk]) rfl ?_
      refine fh_callV (C := R_DK) (y := y_DK_moveToMedia) (bytes := b_DK_moveToMedia) (maxL := 4) (ret := none) (index := 125) (As := [.int (nI cps.length)]) (rest := []) ⟨hx, hb, hml, hown, hG⟩ (c_DK_moveToMedia l E h_13 dk qu med cs .null ul tm hd up wy (sd + 1) il k_15 mf k_17 cal carr cps hC3 (by omega) hB (hC3.2.1.neI ed3 k_17) (nI cps.length) cps.length (Nat.le_refl _) (Or.inl rfl)) (cwV 1 hG (gV gm347 gm349 gs_DK_moveToMedia gm6 gm350) rfl rfl rfl ⟨rfl, hdy_DK_moveToMedia⟩ ⟨Nat.le_of_ble_eq_true rfl, Nat.le_of_ble_eq_true rfl⟩) C_DK.1 k_15 hK hZ hP hS hA rfl hl.1 rfl (Nat.le_of_ble_eq_true rfl) d_DK_end_97 ⟨Nat.le_of_ble_eq_true rfl, Nat.le_of_ble_eq_true rfl⟩ (fun r h1 H locs hq9 hP hS => ?_)
      obtain ⟨rfl, g1, g2, g3⟩ := hq9
      refine W.eq (g2 := F0 m 100 ls []) rfl ?_
      have F7 : Fr h h1 (fun b => b = dk ∨ b = cal ∨ b = carr ∨ b = med ∨ b = r9.1) := fun b e hb n => (g3 b (fun z => n (Or.inr (Or.inl z))) (fun z => n (Or.inr (Or.inr (Or.inl z)))) (fun z => n (Or.inr (Or.inr (Or.inr (Or.inl z)))))).trans ((F3 b (fun z => n (Or.inl z)) (fun z => n (Or.inr (Or.inr (Or.inr (Or.inr z)))))).trans hb)
      obtain ⟨md3, hal3⟩ := hC3.2.1.al
      have nn : ∀ (a i : Nat) (fs : List Value), h_13 a = some (.inr (i, fs)) → i ≠ 0 → h1 a = some (.inr (i, fs)) := fun a i fs ha hi => (g3 a (fh_ne ha hal3 hi) (hC3.2.1.neO ed3 ha) (Ne.symm (fh_neA k_17 ha))).trans ha
      have D7 : Dm h h1 := D3.trans (dm_mv g3 g1.2.1 g2 ed3)
      refine fh_vret hx hb hr hlocks (Nat.le_of_ble_eq_true rfl) (Nat.le_of_ble_eq_true rfl) hP hS ⟨rfl, q, carr, ⟨nn dk _ _ k_15 (by decide), nq1 _ F7, (by rw [he0]; exact g2), (by rw [he0]; exact g1), (fun _ z => by cases z), hnd, hqc, ad_new hQ.2.1 hqa (hZ.edn hP) (Or.inl rfl)⟩, (Or.inl rfl), (by rw [hv0]; exact nn r9.1 _ _ k_18 (by decide)), F7, D7, hq0⟩ d_DK_end_100
    · skip
      refine lv_aload_n hx hb d_DK_end_50 rfl (lv_at hl 0 rfl) ?_
      refine fh_get hx hb hG C_DK iG_DK hown hK hP k_15 2 (by decide) gm90 rfl d_DK_end_51 ?_
      refine fh_new hx hb hG C_CP iG_CP hown gm266 gm267 gm21 hK hP hS hA (fs := [.int 0, .int 0, .int 0]) (fun j hj => by rcases (show j = 0 ∨ j = 1 ∨ j = 2 by omega) with rfl | rfl | rfl <;> rfl) (Nat.le_of_ble_eq_true rfl) (Nat.le_of_ble_eq_true rfl) d_DK_end_54 (fun q H hf_21 hP hS => ?_)
      obtain ⟨h_22, eh_23⟩ : ∃ z : fh_H, z = va_up h_13 q (some (.inr (1, [.int 0, .int 0, .int 0]))) := ⟨_, rfl⟩
      have hP : fh_P E.1 vwCl A h_22 H := by rw [eh_23]; exact hP
      have k_24 : h_22 dk = some (.inr (5, [.ref qu, .ref med, .ref cs, .null, .int ul, .int tm, .int hd, .int up, .int wy, .int (sd + 1), .int il])) := by rw [eh_23]; exact fh_up k_15 (fh_neF k_15 hf_21)
      have k_25 : h_22 r9.1 = some (.inr (3, [.int r9.2.1, .int r9.2.2.1, .int r9.2.2.2.1, .int r9.2.2.2.2.1, .int r9.2.2.2.2.2, .int 1])) := by rw [eh_23]; exact fh_up k_18 (fh_neF k_18 hf_21)
      have k_26 : h_22 cs = some (.inr (2, [.ref cal])) := by rw [eh_23]; exact fh_up k_16 (fh_neF k_16 hf_21)
      have k_27 : h_22 med = some (.inl (fh_cI E, 256, .inl mf)) := by rw [eh_23]; exact fh_up k_17 (fh_neF k_17 hf_21)
      have k_28 : h_22 q = some (.inr (1, [.int 0, .int 0, .int 0])) := by rw [eh_23]; exact va_up_self _ _ _
      refine lv_dup hx hb d_DK_end_57 rfl ?_
      refine lv_aload_n hx hb d_DK_end_58 rfl (lv_at hl 1 rfl) ?_
      refine fh_get hx hb hG C_RQ iG_RQ hown hK hP k_25 2 (by decide) gm560 rfl d_DK_end_59 ?_
      refine lv_aload_n hx hb d_DK_end_62 rfl (lv_at hl 1 rfl) ?_
      refine fh_get hx hb hG C_RQ iG_RQ hown hK hP k_25 4 (by decide) gm568 rfl d_DK_end_63 ?_
      refine fh_callI (b := q) (y := y_CP_init) (bytes := b_CP_init) (maxL := 3) (index := 118) (As := [.int r9.2.2.2.1, .int r9.2.2.2.2.2]) (rest := [.ref q, .ref cs]) ⟨hx, hb, hml, hown, hG⟩ (c_CP_init l E h_22 q r9.2.2.2.1 r9.2.2.2.2.2 (.int 0) (.int 0) (.int 0) k_28) (cwI 2 hG (gB gm270) rfl rfl rfl (hG _ gm21) (hG _ gm268) (hG _ gm269) rfl hdy_CP_init ⟨Nat.le_of_ble_eq_true rfl, Nat.le_of_ble_eq_true rfl⟩) hK hZ hP hS hA rfl hl.1 rfl (Nat.le_of_ble_eq_true rfl) d_DK_end_66 ⟨Nat.le_of_ble_eq_true rfl, Nat.le_of_ble_eq_true rfl⟩ (fun r h1 H locs hq9 hP hS => ?_)
      obtain ⟨rfl, e9⟩ := hq9
      rw [e9] at hP
      refine W.eq (g2 := F0 m 69 ls [.ref q, .ref cs]) rfl ?_
      obtain ⟨h_29, eh_30⟩ : ∃ z : fh_H, z = va_up h_22 q (some (.inr (1, [.int r9.2.2.2.1, .int r9.2.2.2.2.2, .int 0]))) := ⟨_, rfl⟩
      have hP : fh_P E.1 vwCl A h_29 H := by rw [eh_30]; exact hP
      have k_31 : h_29 dk = some (.inr (5, [.ref qu, .ref med, .ref cs, .null, .int ul, .int tm, .int hd, .int up, .int wy, .int (sd + 1), .int il])) := by rw [eh_30]; exact fh_up k_24 (fh_ne k_24 k_28 (by decide))
      have k_32 : h_29 r9.1 = some (.inr (3, [.int r9.2.1, .int r9.2.2.1, .int r9.2.2.2.1, .int r9.2.2.2.2.1, .int r9.2.2.2.2.2, .int 1])) := by rw [eh_30]; exact fh_up k_25 (fh_ne k_25 k_28 (by decide))
      have k_33 : h_29 cs = some (.inr (2, [.ref cal])) := by rw [eh_30]; exact fh_up k_26 (fh_ne k_26 k_28 (by decide))
      have k_34 : h_29 med = some (.inl (fh_cI E, 256, .inl mf)) := by rw [eh_30]; exact fh_up k_27 (fh_neA k_27 k_28)
      have k_35 : h_29 q = some (.inr (1, [.int r9.2.2.2.1, .int r9.2.2.2.2.2, .int 0])) := by rw [eh_30]; exact va_up_self _ _ _
      have hq0 : h q = none := D3 q hf_21
      have he0 : endT mf cps r9 q = movT mf (cps.eraseP (fun d => d.2.1 == r9.2.2.2.1) ++ [((q, r9.2.2.2.1, r9.2.2.2.2.2, 0) : tC)]) (((cps.eraseP (fun d => d.2.1 == r9.2.2.2.1)).length + 1) - 6) := by unfold endT; rw [if_neg c_19, if_pos c_20]
      have hv0 : endV mf cps r9 = r9.2.2.2.2.2 := by unfold endV; rw [if_neg c_19]
      have F5 : ∀ b, b ≠ q → h_29 b = h_13 b := fun b z => by rw [eh_30, va_up_ne _ _ z, eh_23, va_up_ne _ _ z]
      have D5 : Dm h h_29 := D3.trans ((dm_up eh_23).trans (dm_up eh_30))
      have F5b : Fr h_13 h_29 (fun b => b = q) := fun b e hb n => (F5 b n).trans hb
      have ed5 := hZ.edn hP
      obtain ⟨md3, hal3⟩ := hC3.2.1.al
      have hC5 : CLs E h_29 cs cal carr cps := hC3.keep F5b (fh_neF hC3.1 hf_21) (fh_neF hal3 hf_21) (fun e he => fh_neF he hf_21) (fun c hc => fh_neF (hC3.2.2 c hc) hf_21)
      obtain ⟨md5, hal5⟩ := hC5.2.1.al
      refine fh_callV (C := R_CS) (y := y_CS_putLast) (bytes := b_CS_putLast) (maxL := 3) (ret := none) (index := 121) (As := [.ref q]) (rest := []) ⟨hx, hb, hml, hown, hG⟩ (c_CS_putLast l E h_29 cs cal carr cps hC5 (by omega) (q, r9.2.2.2.1, r9.2.2.2.2.2, 0) k_35) (cwV 1 hG (gV gm288 gm289 gm290 gm2 gm291) rfl rfl rfl ⟨rfl, hdy_CS_putLast⟩ ⟨Nat.le_of_ble_eq_true rfl, Nat.le_of_ble_eq_true rfl⟩) C_CS.1 k_33 hK hZ hP hS hA rfl hl.1 rfl (Nat.le_of_ble_eq_true rfl) d_DK_end_69 ⟨Nat.le_of_ble_eq_true rfl, Nat.le_of_ble_eq_true rfl⟩ (fun r h1 H locs hq9 hP hS => ?_)
      obtain ⟨rfl, carr1, g1, gF⟩ := hq9
      refine W.eq (g2 := F0 m 72 ls []) rfl ?_
      have hia5 := hC5.2.1.isArr ed5
      have n6 : ∀ (a i : Nat) (fs : List Value), h_29 a = some (.inr (i, fs)) → i ≠ 0 → h1 a = some (.inr (i, fs)) := fun a i fs ha hi => gF.obj hal5 hia5 ha hi
      have nm1 : med ≠ cal := fh_neA k_34 hal5
      have nm2 : med ≠ carr := hC5.2.1.neI ed5 k_34
      have nm3 : med ≠ carr1 := by
        rcases gF.2.1 with z | z
        · rw [z]; exact nm2
        · exact fh_neF k_34 z
      have km6 : h1 med = some (.inl (fh_cI E, 256, .inl mf)) := (gF.1 med nm1 nm2 nm3).trans k_34
      have kd6 := n6 dk _ _ k_31 (by decide)
      have kc6 := g1.1
      have kr6 := n6 r9.1 _ _ k_32 (by decide)
      have ed6 := hZ.edn hP
      have hlen : (cps.eraseP (fun d => d.2.1 == r9.2.2.2.1) ++ [((q, r9.2.2.2.1, r9.2.2.2.2.2, 0) : tC)]).length = ((cps.eraseP (fun d => d.2.1 == r9.2.2.2.1)).length + 1) := by simp
      have hle : (cps.eraseP (fun d => d.2.1 == r9.2.2.2.1)).length ≤ cps.length := eraseP_len
      have hB6 : ∀ d ∈ (cps.eraseP (fun d => d.2.1 == r9.2.2.2.1) ++ [((q, r9.2.2.2.1, r9.2.2.2.2.2, 0) : tC)]), bOK d.2.1 := fun d hd9 => by
        rcases List.mem_append.mp hd9 with z | z
        · exact hB d (List.mem_of_mem_eraseP z)
        · rw [List.mem_singleton.mp z]; exact h9B (fun z2 => by rw [c_20] at z2; exact absurd z2 (by decide))
      refine lv_aload_n hx hb d_DK_end_72 rfl (lv_at hl 0 rfl) ?_
      refine lv_aload_n hx hb d_DK_end_73 rfl (lv_at hl 0 rfl) ?_
      refine fh_get hx hb hG C_DK iG_DK hown hK hP kd6 2 (by decide) gm90 rfl d_DK_end_74 ?_
      refine fh_callV (C := R_CS) (y := y_CS_size) (bytes := b_CS_size) (maxL := 1) (ret := (some .int)) (index := 105) (As := []) (rest := [.ref dk]) ⟨hx, hb, hml, hown, hG⟩ (c_CS_size l E h1 cs cal carr1 (cps.eraseP (fun d => d.2.1 == r9.2.2.2.1) ++ [((q, r9.2.2.2.1, r9.2.2.2.2.2, 0) : tC)]) g1 (by rw [hlen]; omega)) (cwV 0 hG (gV gm240 gm241 gm242 gm2 gm243) rfl rfl rfl ⟨rfl, hdy_CS_size⟩ ⟨Nat.le_of_ble_eq_true rfl, Nat.le_of_ble_eq_true rfl⟩) C_CS.1 kc6 hK hZ hP hS hA rfl hl.1 rfl (Nat.le_of_ble_eq_true rfl) d_DK_end_77 ⟨Nat.le_of_ble_eq_true rfl, Nat.le_of_ble_eq_true rfl⟩ (fun r h2 H locs hq9 hP hS => ?_)
      obtain ⟨rfl, e9⟩ := hq9
      rw [e9] at hP
      refine W.eq (g2 := F0 m 80 ls [.int (nI (cps.eraseP (fun d => d.2.1 == r9.2.2.2.1) ++ [((q, r9.2.2.2.1, r9.2.2.2.2.2, 0) : tC)]).length), .ref dk]) rfl ?_
      refine W.eq (g2 := F0 m 80 ls [.int (nI ((cps.eraseP (fun d => d.2.1 == r9.2.2.2.1)).length + 1)), .ref dk]) (by rw [hlen]) ?_
      refine lv_bipush (v := 6) hx hb d_DK_end_80 (by decide) ?_
      refine lv_isub hx hb d_DK_end_82 ?_
      refine fh_callV (C := R_DK) (y := y_DK_moveToMedia) (bytes := b_DK_moveToMedia) (maxL := 4) (ret := none) (index := 125) (As := [.int (((nI ((cps.eraseP (fun d => d.2.1 == r9.2.2.2.1)).length + 1))) - 6)]) (rest := []) ⟨hx, hb, hml, hown, hG⟩ (c_DK_moveToMedia l E h1 dk qu med cs .null ul tm hd up wy (sd + 1) il kd6 mf km6 cal carr1 (cps.eraseP (fun d => d.2.1 == r9.2.2.2.1) ++ [((q, r9.2.2.2.1, r9.2.2.2.2.2, 0) : tC)]) g1 (by rw [hlen]; omega) hB6 nm3 (nI ((cps.eraseP (fun d => d.2.1 == r9.2.2.2.1)).length + 1) - 6) (((cps.eraseP (fun d => d.2.1 == r9.2.2.2.1)).length + 1) - 6) (by rw [hlen]; omega) (sub6 (by omega))) (cwV 1 hG (gV gm347 gm349 gs_DK_moveToMedia gm6 gm350) rfl rfl rfl ⟨rfl, hdy_DK_moveToMedia⟩ ⟨Nat.le_of_ble_eq_true rfl, Nat.le_of_ble_eq_true rfl⟩) C_DK.1 kd6 hK hZ hP hS hA rfl hl.1 rfl (Nat.le_of_ble_eq_true rfl) d_DK_end_83 ⟨Nat.le_of_ble_eq_true rfl, Nat.le_of_ble_eq_true rfl⟩ (fun r h2 H locs hq9 hP hS => ?_)
      obtain ⟨rfl, j1, j2, j3⟩ := hq9
      refine W.eq (g2 := F0 m 86 ls []) rfl ?_
      refine lv_goto (tgt := 100) hx hb d_DK_end_86 (by decide) ?_
      obtain ⟨md6, hal6⟩ := g1.2.1.al
      have nn : ∀ (a i : Nat) (fs : List Value), h1 a = some (.inr (i, fs)) → i ≠ 0 → h2 a = some (.inr (i, fs)) := fun a i fs ha hi => (j3 a (fh_ne ha hal6 hi) (g1.2.1.neO ed6 ha) (Ne.symm (fh_neA km6 ha))).trans ha
      have N1 : NewA h carr carr1 := by
        rcases gF.2.1 with z | z
        · exact Or.inl z
        · exact Or.inr (D5 carr1 z)
      have F7 : Fr h h2 (fun b => b = dk ∨ b = cal ∨ b = carr ∨ b = med ∨ b = r9.1) := fun b e hb n => by
        have b1 : b ≠ q := fh_neF hb hq0
        have b2 : b ≠ carr1 := by
          rcases N1 with z | z
          · rw [z]; exact fun z => n (Or.inr (Or.inr (Or.inl z)))
          · exact fh_neF hb z
        rw [j3 b (fun z => n (Or.inr (Or.inl z))) b2 (fun z => n (Or.inr (Or.inr (Or.inr (Or.inl z))))), gF.1 b (fun z => n (Or.inr (Or.inl z))) (fun z => n (Or.inr (Or.inr (Or.inl z)))) b2, F5 b b1, F3 b (fun z => n (Or.inl z)) (fun z => n (Or.inr (Or.inr (Or.inr (Or.inr z)))))]
        exact hb
      have D7 : Dm h h2 := D5.trans (gF.2.2.trans (dm_mv j3 j1.2.1 j2 ed6))
      refine fh_vret hx hb hr hlocks (Nat.le_of_ble_eq_true rfl) (Nat.le_of_ble_eq_true rfl) hP hS ⟨rfl, q, carr1, ⟨nn dk _ _ kd6 (by decide), nq1 _ F7, (by rw [he0]; exact j2), (by rw [he0]; exact j1), (fun _ z => by cases z), hnd, hqc, ad_new hQ.2.1 hqa (hZ.edn hP) N1⟩, N1, (by rw [hv0]; exact nn r9.1 _ _ kr6 (by decide)), F7, D7, hq0⟩ d_DK_end_100
  · skip
    obtain ⟨nb, hnb, hbe⟩ := h9B (by rw [c_19]; decide)
    have he0 : ∀ q, endT mf cps r9 q = (mf, cps) := fun q => by unfold endT; rw [if_pos c_19]
    have hv0 : endV mf cps r9 = vin mf cps r9.2.2.2.1 := by unfold endV; rw [if_pos c_19]
    refine lv_aload_n hx hb d_DK_end_27 rfl (lv_at hl 1 rfl) ?_
    refine lv_aload_n hx hb d_DK_end_28 rfl (lv_at hl 0 rfl) ?_
    refine lv_aload_n hx hb d_DK_end_29 rfl (lv_at hl 1 rfl) ?_
    refine fh_get hx hb hG C_RQ iG_RQ hown hK hP k_18 2 (by decide) gm560 rfl d_DK_end_30 ?_
    refine W.eq (g2 := F0 m 33 ls [.int (nI nb), .ref dk, .ref r9.1]) (by rw [hbe]) ?_
    refine fh_callV (C := R_DK) (y := y_DK_valueInside) (bytes := b_DK_valueInside) (maxL := 3) (ret := (some .int)) (index := 66) (As := [.int (nI nb)]) (rest := [.ref r9.1]) ⟨hx, hb, hml, hown, hG⟩ (c_DK_valueInside l E h_13 dk qu med cs .null ul tm hd up wy (sd + 1) il k_15 mf k_17 nb hnb cal carr cps hC3 (by omega)) (cwV 1 hG (gV gm256 gm258 gs_DK_valueInside gm6 gm259) rfl rfl rfl ⟨rfl, hdy_DK_valueInside⟩ ⟨Nat.le_of_ble_eq_true rfl, Nat.le_of_ble_eq_true rfl⟩) C_DK.1 k_15 hK hZ hP hS hA rfl hl.1 rfl (Nat.le_of_ble_eq_true rfl) d_DK_end_33 ⟨Nat.le_of_ble_eq_true rfl, Nat.le_of_ble_eq_true rfl⟩ (fun r h1 H locs hq9 hP hS => ?_)
    obtain ⟨rfl, e9⟩ := hq9
    rw [e9] at hP
    refine W.eq (g2 := F0 m 36 ls [.int (vin mf cps (nI nb)), .ref r9.1]) rfl ?_
    refine W.eq (g2 := F0 m 36 ls [.int (vin mf cps r9.2.2.2.1), .ref r9.1]) (by rw [hbe]) ?_
    refine fh_put hx hb hG C_RQ iG_RQ hown hK hP hS k_18 4 (by decide) gm568 rfl (v := .int (vin mf cps r9.2.2.2.1)) rfl rfl (Nat.le_of_ble_eq_true rfl) d_DK_end_36 (fun H locs hP hS => ?_)
    obtain ⟨h_36, eh_37⟩ : ∃ z : fh_H, z = va_up h_13 r9.1 (some (.inr (3, [.int r9.2.1, .int r9.2.2.1, .int r9.2.2.2.1, .int r9.2.2.2.2.1, .int (vin mf cps r9.2.2.2.1), .int 1]))) := ⟨_, rfl⟩
    have hP : fh_P E.1 vwCl A h_36 H := by rw [eh_37]; exact hP
    have k_38 : h_36 dk = some (.inr (5, [.ref qu, .ref med, .ref cs, .null, .int ul, .int tm, .int hd, .int up, .int wy, .int (sd + 1), .int il])) := by rw [eh_37]; exact fh_up k_15 (fh_ne k_15 k_18 (by decide))
    have k_39 : h_36 cs = some (.inr (2, [.ref cal])) := by rw [eh_37]; exact fh_up k_16 (fh_ne k_16 k_18 (by decide))
    have k_40 : h_36 med = some (.inl (fh_cI E, 256, .inl mf)) := by rw [eh_37]; exact fh_up k_17 (fh_neA k_17 k_18)
    have k_41 : h_36 r9.1 = some (.inr (3, [.int r9.2.1, .int r9.2.2.1, .int r9.2.2.2.1, .int r9.2.2.2.2.1, .int (vin mf cps r9.2.2.2.1), .int 1])) := by rw [eh_37]; exact va_up_self _ _ _
    refine lv_goto (tgt := 100) hx hb d_DK_end_39 (by decide) ?_
    have F7 : Fr h h_36 (fun b => b = dk ∨ b = cal ∨ b = carr ∨ b = med ∨ b = r9.1) := fun b e hb n => by rw [eh_37, va_up_ne _ _ (fun z => n (Or.inr (Or.inr (Or.inr (Or.inr z))))), F3 b (fun z => n (Or.inl z)) (fun z => n (Or.inr (Or.inr (Or.inr (Or.inr z)))))]; exact hb
    have F7b : Fr h_13 h_36 (fun b => b = r9.1) := fun b e hb n => by rw [eh_37, va_up_ne _ _ n]; exact hb
    have D7 : Dm h h_36 := D3.trans (dm_up eh_37)
    obtain ⟨md3, hal3⟩ := hC3.2.1.al
    have hC4 : CLs E h_36 cs cal carr cps := hC3.keep F7b (fh_ne hC3.1 k_18 (by decide)) (fh_ne hal3 k_18 (by decide)) (fun e _ z => hC3.2.1.neO ed3 k_18 z.symm) (fun c hc => fh_ne (hC3.2.2 c hc) k_18 (by decide))
    obtain ⟨q, hq0⟩ : ∃ q, h q = none := ⟨_, hed⟩
    refine fh_vret hx hb hr hlocks (Nat.le_of_ble_eq_true rfl) (Nat.le_of_ble_eq_true rfl) hP hS ⟨rfl, q, carr, ⟨k_38, nq1 _ F7, (by rw [he0]; exact k_40), (by rw [he0]; exact hC4), (fun _ z => by cases z), hnd, hqc, ad_new hQ.2.1 hqa (hZ.edn hP) (Or.inl rfl)⟩, (Or.inl rfl), (by rw [hv0]; exact k_41), F7, D7, hq0⟩ d_DK_end_100
