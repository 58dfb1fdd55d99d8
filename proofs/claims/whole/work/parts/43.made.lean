/-! THE LAYER IS MADE. -/
section FHA
variable {p : Program} {l : Launch} {e : Env} {R : Room} {s : State} {m : MethodId} {args : Array Value} {below : List Frame} {meth : Method} {c : Code} {H : Heap} {locs : List Loc} {cells slots : Nat} {Q : State → Prop}
variable {cc : ByteArray} {pc : Nat} {ls : Array Slot} {rest : List Value} {D : va_G} {cl : List vw_C} {A : Nat → Prop} {tys : List (ClassId × FieldType)} {h : fh_H} {H0 : Heap}
theorem ra_int {c c' : ClassId} (a : va_RA s c .int) (b : va_RA s c' .int) : c = c' := Option.some.inj ((va_nm_int a).symm.trans (va_nm_int b))
theorem ra_bool {c c' : ClassId} (a : va_RA s c .boolean) (b : va_RA s c' .boolean) : c = c' := Option.some.inj ((va_nm_boolean a).symm.trans (va_nm_boolean b))
end FHA
set_option maxHeartbeats 800000 in
set_option maxRecDepth 100000 in
theorem c_DK_init (l : Launch) (E : fh_E) (h : fh_H) (dk : Nat) (hd0 : h dk = some (.inr (5, [.null, .null, .null, .null, .int 0, .int 0, .int 0, .int 0, .int 0, .int 0, .int 0]))) : fh_Met l y_DK_init w_DK_init ({ frames := 5, cells := 5, slots := 264, locals := 92 }) E [.ref dk] h (fun r h1 => r = none ∧ ∃ qu qal med cs cal, DKs E h1 dk qu qal (fh_ed E) med cs cal (fh_ed E) [] (fun _ => 0) [] none 0 0 0 1 3 0 0 ∧ h qu = none ∧ h qal = none ∧ h med = none ∧ h cs = none ∧ h cal = none ∧ Fr h h1 (fun b => b = dk)) 5 264 := by
  refine fh_ofW (cc := b_DK_init) (maxL := 1) (ret := none) (by decide) rfl (Nat.le_of_ble_eq_true rfl) ?_
  intro p e s m below meth c A ls hx hb hr hml hown hts hlocks hname hnoh hadm hA hK hZ hP hS hl
  have hG : ∀ w ∈ G, w.before _ s = true := fun w hw => hts w (List.mem_cons_of_mem _ hw)
  have hown : s.vm.findClass R_DK = some m.cls := hown
  have hl : lv_has ls 1 [(0, .ref dk)] := hl
  have hed := hZ.edn hP
  refine lv_aload_n hx hb d_DK_init_0 rfl (lv_at hl 0 rfl) ?_
  refine W.objInit hx hb hown (hG _ gm72) (hG _ gm29) (hG _ gm30) rfl (by rw [hml]; exact hl.1) rfl d_DK_init_1 (Nat.le_of_ble_eq_true rfl) (Nat.le_of_ble_eq_true rfl) ?_
  refine W.eq (g2 := F0 m 4 ls []) rfl ?_
  refine lv_aload_n hx hb d_DK_init_4 rfl (lv_at hl 0 rfl) ?_
  refine fh_new hx hb hG C_QU iG_QU hown gm73 gm74 gm7 hK hP hS hA (fs := [.null]) (fun j hj => by rcases (show j = 0 by omega) with rfl <;> rfl) (Nat.le_of_ble_eq_true rfl) (Nat.le_of_ble_eq_true rfl) d_DK_init_5 (fun qu H hf_1 hP hS => ?_)
  obtain ⟨h_2, eh_3⟩ : ∃ z : fh_H, z = va_up h qu (some (.inr (4, [.null]))) := ⟨_, rfl⟩
  have hP : fh_P E.1 vwCl A h_2 H := by rw [eh_3]; exact hP
  have k_4 : h_2 dk = some (.inr (5, [.null, .null, .null, .null, .int 0, .int 0, .int 0, .int 0, .int 0, .int 0, .int 0])) := by rw [eh_3]; exact fh_up hd0 (fh_neF hd0 hf_1)
  have k_5 : h_2 qu = some (.inr (4, [.null])) := by rw [eh_3]; exact va_up_self _ _ _
  refine lv_dup hx hb d_DK_init_8 rfl ?_
  refine fh_callIN (b := qu) (y := y_QU_init) (bytes := b_QU_init) (maxL := 1) (index := 11) (host := "BlockLayer") (As := []) (rest := [.ref qu, .ref dk]) ⟨hx, hb, hml, hown, hG⟩ (c_QU_init l E h_2 qu _ k_5) ⟨va_cnB 0 hG (gB gm77) rfl rfl rfl (fhN hZ (.methodLinkNest "BlockLayer$Disk" 11 y_QU_init "BlockLayer") (by simp [fhNest])) (hG _ gm7) hdy_QU_init ⟨Nat.le_of_ble_eq_true rfl, Nat.le_of_ble_eq_true rfl⟩, rfl, hG _ gm76⟩ hK hZ hP hS hA rfl hl.1 rfl (Nat.le_of_ble_eq_true rfl) d_DK_init_9 ⟨Nat.le_of_ble_eq_true rfl, Nat.le_of_ble_eq_true rfl⟩ (fun r h1 H locs hq9 hP hS => ?_)
  obtain ⟨rfl, qal, g1, g2, g3⟩ := hq9
  have f2 : h qal = none := dm_up eh_3 qal g2
  have ne1 : dk ≠ qu := fh_neF hd0 hf_1
  have ne2 : dk ≠ qal := fh_neF hd0 f2
  have kd1 : h1 dk = some (.inr (5, [.null, .null, .null, .null, .int 0, .int 0, .int 0, .int 0, .int 0, .int 0, .int 0])) := by rw [g3 dk ne1 ne2, eh_3]; exact fh_up hd0 ne1
  have M1 : ∀ b e, h b = some e → h1 b = some e := fun b e hb => by rw [g3 b (fh_neF hb hf_1) (fh_neF hb f2), eh_3]; exact fh_up hb (fh_neF hb hf_1)
  obtain ⟨mdq, kal1⟩ := g1.2.1.al
  have kqu1 := g1.1
  refine W.eq (g2 := F0 m 12 ls [.ref qu, .ref dk]) rfl ?_
  refine fh_putF hx hb hG C_DK iG_DK hown hK hP hS kd1 0 (by decide) gm87 rfl hname rfl (v := .ref qu) rfl rfl (Nat.le_of_ble_eq_true rfl) d_DK_init_12 (fun H locs hP hS => ?_)
  obtain ⟨h_6, eh_7⟩ : ∃ z : fh_H, z = va_up h1 dk (some (.inr (5, [.ref qu, .null, .null, .null, .int 0, .int 0, .int 0, .int 0, .int 0, .int 0, .int 0]))) := ⟨_, rfl⟩
  have hP : fh_P E.1 vwCl A h_6 H := by rw [eh_7]; exact hP
  have k_8 : h_6 dk = some (.inr (5, [.ref qu, .null, .null, .null, .int 0, .int 0, .int 0, .int 0, .int 0, .int 0, .int 0])) := by rw [eh_7]; exact va_up_self _ _ _
  refine lv_aload_n hx hb d_DK_init_15 rfl (lv_at hl 0 rfl) ?_
  refine lv_sipush (v := 256) hx hb d_DK_init_16 (by decide) ?_
  refine fh_newa (atype := .int) (ty := .int) hx hb (hG (Cond.arrayClass FieldType.int) gm129) rfl hK hP hS hA 0 rfl (fun _ _ => ra_int) (a0 := (256, .inl (fun _ => 0))) (fun _ => rfl) (by decide) (N' := 256) (by decide) (by decide) (Nat.le_of_ble_eq_true rfl) (Nat.le_of_ble_eq_true rfl) d_DK_init_19 (fun med H fm hP hS => ?_)
  obtain ⟨h_9, eh_10⟩ : ∃ z : fh_H, z = va_up h_6 med (some (.inl (fh_cI E, 256, .inl (fun _ => 0)))) := ⟨_, rfl⟩
  have hP : fh_P E.1 vwCl A h_9 H := by rw [eh_10]; exact hP
  have k_11 : h_9 dk = some (.inr (5, [.ref qu, .null, .null, .null, .int 0, .int 0, .int 0, .int 0, .int 0, .int 0, .int 0])) := by rw [eh_10]; exact fh_up k_8 (fh_neF k_8 fm)
  have k_12 : h_9 med = some (.inl (fh_cI E, 256, .inl (fun _ => 0))) := by rw [eh_10]; exact va_up_self _ _ _
  refine fh_putF hx hb hG C_DK iG_DK hown hK hP hS k_11 1 (by decide) gm89 rfl hname rfl (v := .ref med) rfl rfl (Nat.le_of_ble_eq_true rfl) d_DK_init_21 (fun H locs hP hS => ?_)
  obtain ⟨h_13, eh_14⟩ : ∃ z : fh_H, z = va_up h_9 dk (some (.inr (5, [.ref qu, .ref med, .null, .null, .int 0, .int 0, .int 0, .int 0, .int 0, .int 0, .int 0]))) := ⟨_, rfl⟩
  have hP : fh_P E.1 vwCl A h_13 H := by rw [eh_14]; exact hP
  have k_15 : h_13 med = some (.inl (fh_cI E, 256, .inl (fun _ => 0))) := by rw [eh_14]; exact fh_up k_12 (fh_neA k_12 k_11)
  have k_16 : h_13 dk = some (.inr (5, [.ref qu, .ref med, .null, .null, .int 0, .int 0, .int 0, .int 0, .int 0, .int 0, .int 0])) := by rw [eh_14]; exact va_up_self _ _ _
  refine lv_aload_n hx hb d_DK_init_24 rfl (lv_at hl 0 rfl) ?_
  refine fh_new hx hb hG C_CS iG_CS hown gm85 gm32 gm2 hK hP hS hA (fs := [.null]) (fun j hj => by rcases (show j = 0 by omega) with rfl <;> rfl) (Nat.le_of_ble_eq_true rfl) (Nat.le_of_ble_eq_true rfl) d_DK_init_25 (fun cs H hf_17 hP hS => ?_)
  obtain ⟨h_18, eh_19⟩ : ∃ z : fh_H, z = va_up h_13 cs (some (.inr (2, [.null]))) := ⟨_, rfl⟩
  have hP : fh_P E.1 vwCl A h_18 H := by rw [eh_19]; exact hP
  have k_20 : h_18 dk = some (.inr (5, [.ref qu, .ref med, .null, .null, .int 0, .int 0, .int 0, .int 0, .int 0, .int 0, .int 0])) := by rw [eh_19]; exact fh_up k_16 (fh_neF k_16 hf_17)
  have k_21 : h_18 med = some (.inl (fh_cI E, 256, .inl (fun _ => 0))) := by rw [eh_19]; exact fh_up k_15 (fh_neF k_15 hf_17)
  have k_22 : h_18 cs = some (.inr (2, [.null])) := by rw [eh_19]; exact va_up_self _ _ _
  refine lv_dup hx hb d_DK_init_28 rfl ?_
  refine fh_callIN (b := cs) (y := y_CS_init) (bytes := b_CS_init) (maxL := 1) (index := 24) (host := "BlockLayer") (As := []) (rest := [.ref cs, .ref dk]) ⟨hx, hb, hml, hown, hG⟩ (c_CS_init l E h_18 cs _ k_22) ⟨va_cnB 0 hG (gB gm35) rfl rfl rfl (fhN hZ (.methodLinkNest "BlockLayer$Disk" 24 y_CS_init "BlockLayer") (by simp [fhNest])) (hG _ gm2) hdy_CS_init ⟨Nat.le_of_ble_eq_true rfl, Nat.le_of_ble_eq_true rfl⟩, rfl, hG _ gm34⟩ hK hZ hP hS hA rfl hl.1 rfl (Nat.le_of_ble_eq_true rfl) d_DK_init_29 ⟨Nat.le_of_ble_eq_true rfl, Nat.le_of_ble_eq_true rfl⟩ (fun r h2 H locs hq9 hP hS => ?_)
  obtain ⟨rfl, cal, j1, j2, j3⟩ := hq9
  refine W.eq (g2 := F0 m 32 ls [.ref cs, .ref dk]) rfl ?_
  have MB : ∀ b e, h1 b = some e → b ≠ dk → h_6 b = some e := fun b e hb n => by rw [eh_7, va_up_ne _ _ n]; exact hb
  have MC : ∀ b e, h1 b = some e → b ≠ dk → h_18 b = some e := fun b e hb n => by
    have z1 := MB b e hb n
    have z2 : b ≠ med := fh_neF z1 fm
    rw [eh_19, va_up_ne _ _ (fh_neF (by rw [eh_14, va_up_ne _ _ n, eh_10, va_up_ne _ _ z2]; exact z1) hf_17), eh_14, va_up_ne _ _ n, eh_10, va_up_ne _ _ z2]; exact z1
  have DE : Dm h h_18 := fun b hb => by
    cases hz : h b with
    | none => rfl
    | some e =>
      have z1 := M1 b e hz
      by_cases n : b = dk
      · rw [n, k_20] at hb; cases hb
      · rw [MC b e z1 n] at hb; cases hb
  have hal : h cal = none := DE cal j2
  have hcs : h cs = none := by
    cases hz : h cs with
    | none => rfl
    | some e =>
      have z1 := M1 cs e hz
      by_cases n : cs = dk
      · have z9 := hf_17; rw [n, eh_14, va_up_self] at z9; cases z9
      · have z2 := MB cs e z1 n
        have z3 : cs ≠ med := fh_neF z2 fm
        have z4 := hf_17
        rw [eh_14, va_up_ne _ _ n, eh_10, va_up_ne _ _ z3, z2] at z4; cases z4
  have hmed : h med = none := by
    cases hz : h med with
    | none => rfl
    | some e =>
      have z1 := M1 med e hz
      by_cases n : med = dk
      · have z5 := fm
        rw [n, eh_7, va_up_self] at z5; cases z5
      · rw [MB med e z1 n] at fm; cases fm
  have kd2 : h2 dk = some (.inr (5, [.ref qu, .ref med, .null, .null, .int 0, .int 0, .int 0, .int 0, .int 0, .int 0, .int 0])) := by rw [j3 dk (fh_ne k_20 k_22 (by decide)) (fh_neF k_20 j2)]; exact k_20
  have km2 : h2 med = some (.inl (fh_cI E, 256, .inl (fun _ => 0))) := by rw [j3 med (fh_neA k_21 k_22) (fh_neF k_21 j2)]; exact k_21
  have K2 : ∀ b e, h1 b = some e → b ≠ dk → h2 b = some e := fun b e hb n => by
    have z1 := MC b e hb n
    have z2 : b ≠ cs := by
      intro z
      have z3 := MB b e hb n
      have z4 : b ≠ med := fh_neF z3 fm
      have z5 := hf_17
      rw [← z, eh_14, va_up_ne _ _ n, eh_10, va_up_ne _ _ z4, z3] at z5; cases z5
    rw [j3 b z2 (fh_neF z1 j2)]; exact z1
  refine fh_putF hx hb hG C_DK iG_DK hown hK hP hS kd2 2 (by decide) gm90 rfl hname rfl (v := .ref cs) rfl rfl (Nat.le_of_ble_eq_true rfl) d_DK_init_32 (fun H locs hP hS => ?_)
  obtain ⟨h_23, eh_24⟩ : ∃ z : fh_H, z = va_up h2 dk (some (.inr (5, [.ref qu, .ref med, .ref cs, .null, .int 0, .int 0, .int 0, .int 0, .int 0, .int 0, .int 0]))) := ⟨_, rfl⟩
  have hP : fh_P E.1 vwCl A h_23 H := by rw [eh_24]; exact hP
  have k_25 : h_23 dk = some (.inr (5, [.ref qu, .ref med, .ref cs, .null, .int 0, .int 0, .int 0, .int 0, .int 0, .int 0, .int 0])) := by rw [eh_24]; exact va_up_self _ _ _
  refine lv_aload_n hx hb d_DK_init_35 rfl (lv_at hl 0 rfl) ?_
  refine lv_iconst (v := 1) hx hb d_DK_init_36 (by decide) ?_
  refine fh_put hx hb hG C_DK iG_DK hown hK hP hS k_25 7 (by decide) gm99 rfl (v := .int 1) rfl rfl (Nat.le_of_ble_eq_true rfl) d_DK_init_37 (fun H locs hP hS => ?_)
  obtain ⟨h_26, eh_27⟩ : ∃ z : fh_H, z = va_up h_23 dk (some (.inr (5, [.ref qu, .ref med, .ref cs, .null, .int 0, .int 0, .int 0, .int 1, .int 0, .int 0, .int 0]))) := ⟨_, rfl⟩
  have hP : fh_P E.1 vwCl A h_26 H := by rw [eh_27]; exact hP
  have k_28 : h_26 dk = some (.inr (5, [.ref qu, .ref med, .ref cs, .null, .int 0, .int 0, .int 0, .int 1, .int 0, .int 0, .int 0])) := by rw [eh_27]; exact va_up_self _ _ _
  refine lv_aload_n hx hb d_DK_init_40 rfl (lv_at hl 0 rfl) ?_
  refine lv_iconst (v := 3) hx hb d_DK_init_41 (by decide) ?_
  refine fh_put hx hb hG C_DK iG_DK hown hK hP hS k_28 8 (by decide) gm100 rfl (v := .int 3) rfl rfl (Nat.le_of_ble_eq_true rfl) d_DK_init_42 (fun H locs hP hS => ?_)
  obtain ⟨h_29, eh_30⟩ : ∃ z : fh_H, z = va_up h_26 dk (some (.inr (5, [.ref qu, .ref med, .ref cs, .null, .int 0, .int 0, .int 0, .int 1, .int 3, .int 0, .int 0]))) := ⟨_, rfl⟩
  have hP : fh_P E.1 vwCl A h_29 H := by rw [eh_30]; exact hP
  have k_31 : h_29 dk = some (.inr (5, [.ref qu, .ref med, .ref cs, .null, .int 0, .int 0, .int 0, .int 1, .int 3, .int 0, .int 0])) := by rw [eh_30]; exact va_up_self _ _ _
  have hq : h_29 = va_up h2 dk (some (.inr (5, [.ref qu, .ref med, .ref cs, .null, .int 0, .int 0, .int 0, .int 1, .int 3, .int 0, .int 0]))) := by rw [eh_30, eh_27, eh_24, bx_uu, bx_uu]
  have ed9 := hZ.edn hP
  have FU : ∀ b e, h2 b = some e → b ≠ dk → h_29 b = some e := fun b e hb n => by rw [hq, va_up_ne _ _ n]; exact hb
  obtain ⟨mdc, kal2⟩ := j1.2.1.al
  have q1n : qu ≠ dk := fh_ne kqu1 kd1 (by decide)
  have q2n : qal ≠ dk := fh_ne kal1 kd1 (by decide)
  have F9 : Fr h1 h_29 (fun b => b = dk) := fun b e hb n => FU _ _ (K2 b e hb n) n
  have G9 : Fr h2 h_29 (fun b => b = dk) := fun b e hb n => FU _ _ hb n
  have Q9 : QLs E h_29 qu qal (fh_ed E) [] := g1.keep F9 q1n q2n (fun e he z => absurd (show h_29 (fh_ed E) = none from ed9) (by rw [z, hq, va_up_self]; exact fun w => by cases w)) (fun r hr => by cases hr)
  have C9 : CLs E h_29 cs cal (fh_ed E) [] := j1.keep G9 (fh_ne j1.1 kd2 (by decide)) (fh_ne kal2 kd2 (by decide)) (fun e he z => absurd (show h_29 (fh_ed E) = none from ed9) (by rw [z, hq, va_up_self]; exact fun w => by cases w)) (fun r hr => by cases hr)
  exact fh_vret hx hb hr hlocks (Nat.le_of_ble_eq_true rfl) (Nat.le_of_ble_eq_true rfl) hP hS ⟨rfl, qu, qal, med, cs, cal, ⟨by rw [hq]; exact va_up_self _ _ _, Q9, FU _ _ km2 (fh_neA km2 kd2), C9, fun r z => (by cases z), List.nodup_nil, fun z => fh_neF (MC _ _ kal1 q2n) j2 z, fun e he => absurd he (by rw [ed9]; exact fun z => by cases z)⟩, hf_1, f2, hmed, hcs, hal, fun b e hb n => F9 _ _ (M1 b e hb) n⟩ d_DK_init_45

