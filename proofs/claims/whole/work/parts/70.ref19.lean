/-! THE REFERENCE IS MADE. -/
theorem isA_c {k : Nat} (h : isA k = true) : k = 9 ∨ k = 11 ∨ k = 12 ∨ k = 13 ∨ k = 16 ∨ k = 17 ∨ k = 18 ∨ k = 19 ∨ k = 20 ∨ k = 22 ∨ k = 23 := by
  simpa [isA] using h
set_option maxHeartbeats 800000 in
set_option maxRecDepth 100000 in
theorem c_MD_init (l : Launch) (E : fh_E) (h : fh_H) (md : Nat) (hd0 : h md = some (.inr (7, [.int 0, .int 0, .int 0, .int 0, .int 0, .int 0, .int 0, .int 0, .int 0, .null, .int 0, .null, .null, .null, .int 0, .int 0, .null, .null, .null, .null, .null, .int 0, .null, .null, .int 0, .int 0, .int 0, .int 0, .int 0]))) : fh_Met l y_MD_init w_MD_init ({ frames := 1, cells := 11, slots := 510, locals := 12 }) E [.ref md] h (fun r h1 => r = none ∧ ∃ ad sc ar, MDs E h1 md ad sc ar ∧ RM sc ar S0 ∧ (∀ k, isA k = true → h (ad k) = none) ∧ ∀ b e, h b = some e → b ≠ md → h1 b = some e) 11 510 := by
  refine fh_ofW (cc := b_MD_init) (maxL := 1) (ret := none) (by decide) rfl (Nat.le_of_ble_eq_true rfl) ?_
  intro p e s m below meth c A ls hx hb hr hml hown hts hlocks hname hnoh hadm hA hK hZ hP hS hl
  have hG : ∀ w ∈ G, w.before _ s = true := fun w hw => hts w (List.mem_cons_of_mem _ hw)
  have hown : s.vm.findClass R_MD = some m.cls := hown
  have hl : lv_has ls 1 [(0, .ref md)] := hl
  refine lv_aload_n hx hb d_MD_init_0 rfl (lv_at hl 0 rfl) ?_
  refine W.objInit hx hb hown (hG _ gm672) (hG _ gm29) (hG _ gm30) rfl (by rw [hml]; exact hl.1) rfl d_MD_init_1 (Nat.le_of_ble_eq_true rfl) (Nat.le_of_ble_eq_true rfl) ?_
  refine W.eq (g2 := F0 m 4 ls []) rfl ?_
  refine lv_aload_n hx hb d_MD_init_4 rfl (lv_at hl 0 rfl) ?_
  refine lv_iconst (v := 3) hx hb d_MD_init_5 (by decide) ?_
  have F_0 : ∀ b e, h b = some e → b ≠ md → h b = some e := fun b e hb _ => hb
  have D_0 : ∀ b, h b = none → h b = none := fun b hb => hb
  refine fh_put hx hb hG C_MD iG_MD hown hK hP hS hd0 8 (by decide) gm681 rfl (v := .int 3) rfl rfl (Nat.le_of_ble_eq_true rfl) d_MD_init_6 (fun H locs hP hS => ?_)
  obtain ⟨h_1, eh_2⟩ : ∃ z : fh_H, z = va_up h md (some (.inr (7, [.int 0, .int 0, .int 0, .int 0, .int 0, .int 0, .int 0, .int 0, .int 3, .null, .int 0, .null, .null, .null, .int 0, .int 0, .null, .null, .null, .null, .null, .int 0, .null, .null, .int 0, .int 0, .int 0, .int 0, .int 0]))) := ⟨_, rfl⟩
  have hP : fh_P E.1 vwCl A h_1 H := by rw [eh_2]; exact hP
  have k_3 : h_1 md = some (.inr (7, [.int 0, .int 0, .int 0, .int 0, .int 0, .int 0, .int 0, .int 0, .int 3, .null, .int 0, .null, .null, .null, .int 0, .int 0, .null, .null, .null, .null, .null, .int 0, .null, .null, .int 0, .int 0, .int 0, .int 0, .int 0])) := by rw [eh_2]; exact va_up_self _ _ _
  have F_1 : ∀ b e, h b = some e → b ≠ md → h_1 b = some e := fun b e hb n9 => by rw [eh_2, va_up_ne _ _ n9]; exact F_0 b e hb n9
  have D_1 : ∀ b, h_1 b = none → h b = none := fun b hb => D_0 b (dm_up eh_2 b hb)
  refine lv_aload_n hx hb d_MD_init_9 rfl (lv_at hl 0 rfl) ?_
  refine lv_sipush (v := 256) hx hb d_MD_init_10 (by decide) ?_
  refine fh_newa (atype := .int) (ty := .int) hx hb (hG (Cond.arrayClass FieldType.int) gm129) rfl hK hP hS hA 0 rfl (fun _ _ => ra_int) (a0 := (256, .inl (fun _ => 0))) (fun _ => rfl) (by decide) (N' := 256) (by decide) (by decide) (Nat.le_of_ble_eq_true rfl) (Nat.le_of_ble_eq_true rfl) d_MD_init_13 (fun v9 H f9 hP hS => ?_)
  have o9 : h v9 = none := D_1 v9 f9
  have om9 : md ≠ v9 := fh_neF k_3 f9
  obtain ⟨h_4, eh_5⟩ : ∃ z : fh_H, z = va_up h_1 v9 (some (.inl (fh_cI E, 256, .inl (fun _ => 0)))) := ⟨_, rfl⟩
  have hP : fh_P E.1 vwCl A h_4 H := by rw [eh_5]; exact hP
  have k_6 : h_4 md = some (.inr (7, [.int 0, .int 0, .int 0, .int 0, .int 0, .int 0, .int 0, .int 0, .int 3, .null, .int 0, .null, .null, .null, .int 0, .int 0, .null, .null, .null, .null, .null, .int 0, .null, .null, .int 0, .int 0, .int 0, .int 0, .int 0])) := by rw [eh_5]; exact fh_up k_3 (fh_neF k_3 f9)
  have k_7 : h_4 v9 = some (.inl (fh_cI E, 256, .inl (fun _ => 0))) := by rw [eh_5]; exact va_up_self _ _ _
  have F_2 : ∀ b e, h b = some e → b ≠ md → h_4 b = some e := fun b e hb n9 => by rw [eh_5, va_up_ne _ _ (fh_neF (F_1 b e hb n9) f9)]; exact F_1 b e hb n9
  have D_2 : ∀ b, h_4 b = none → h b = none := fun b hb => D_1 b (dm_up eh_5 b hb)
  refine fh_putF hx hb hG C_MD iG_MD hown hK hP hS k_6 9 (by decide) gm682 rfl hname rfl (v := .ref v9) rfl rfl (Nat.le_of_ble_eq_true rfl) d_MD_init_15 (fun H locs hP hS => ?_)
  obtain ⟨h_8, eh_9⟩ : ∃ z : fh_H, z = va_up h_4 md (some (.inr (7, [.int 0, .int 0, .int 0, .int 0, .int 0, .int 0, .int 0, .int 0, .int 3, .ref v9, .int 0, .null, .null, .null, .int 0, .int 0, .null, .null, .null, .null, .null, .int 0, .null, .null, .int 0, .int 0, .int 0, .int 0, .int 0]))) := ⟨_, rfl⟩
  have hP : fh_P E.1 vwCl A h_8 H := by rw [eh_9]; exact hP
  have k_10 : h_8 v9 = some (.inl (fh_cI E, 256, .inl (fun _ => 0))) := by rw [eh_9]; exact fh_up k_7 (fh_neA k_7 k_6)
  have k_11 : h_8 md = some (.inr (7, [.int 0, .int 0, .int 0, .int 0, .int 0, .int 0, .int 0, .int 0, .int 3, .ref v9, .int 0, .null, .null, .null, .int 0, .int 0, .null, .null, .null, .null, .null, .int 0, .null, .null, .int 0, .int 0, .int 0, .int 0, .int 0])) := by rw [eh_9]; exact va_up_self _ _ _
  have F_3 : ∀ b e, h b = some e → b ≠ md → h_8 b = some e := fun b e hb n9 => by rw [eh_9, va_up_ne _ _ n9]; exact F_2 b e hb n9
  have D_3 : ∀ b, h_8 b = none → h b = none := fun b hb => D_2 b (dm_up eh_9 b hb)
  refine lv_aload_n hx hb d_MD_init_18 rfl (lv_at hl 0 rfl) ?_
  refine lv_bipush (v := 11) hx hb d_MD_init_19 (by decide) ?_
  refine fh_newa (atype := .int) (ty := .int) hx hb (hG (Cond.arrayClass FieldType.int) gm129) rfl hK hP hS hA 0 rfl (fun _ _ => ra_int) (a0 := (11, .inl (fun _ => 0))) (fun _ => rfl) (by decide) (N' := 11) (by decide) (by decide) (Nat.le_of_ble_eq_true rfl) (Nat.le_of_ble_eq_true rfl) d_MD_init_21 (fun v11 H f11 hP hS => ?_)
  have ne_9_11 : v9 ≠ v11 := fh_neF k_10 f11
  have o11 : h v11 = none := D_3 v11 f11
  have om11 : md ≠ v11 := fh_neF k_11 f11
  obtain ⟨h_12, eh_13⟩ : ∃ z : fh_H, z = va_up h_8 v11 (some (.inl (fh_cI E, 11, .inl (fun _ => 0)))) := ⟨_, rfl⟩
  have hP : fh_P E.1 vwCl A h_12 H := by rw [eh_13]; exact hP
  have k_14 : h_12 md = some (.inr (7, [.int 0, .int 0, .int 0, .int 0, .int 0, .int 0, .int 0, .int 0, .int 3, .ref v9, .int 0, .null, .null, .null, .int 0, .int 0, .null, .null, .null, .null, .null, .int 0, .null, .null, .int 0, .int 0, .int 0, .int 0, .int 0])) := by rw [eh_13]; exact fh_up k_11 (fh_neF k_11 f11)
  have k_15 : h_12 v9 = some (.inl (fh_cI E, 256, .inl (fun _ => 0))) := by rw [eh_13]; exact fh_up k_10 (fh_neF k_10 f11)
  have k_16 : h_12 v11 = some (.inl (fh_cI E, 11, .inl (fun _ => 0))) := by rw [eh_13]; exact va_up_self _ _ _
  have F_4 : ∀ b e, h b = some e → b ≠ md → h_12 b = some e := fun b e hb n9 => by rw [eh_13, va_up_ne _ _ (fh_neF (F_3 b e hb n9) f11)]; exact F_3 b e hb n9
  have D_4 : ∀ b, h_12 b = none → h b = none := fun b hb => D_3 b (dm_up eh_13 b hb)
  refine fh_putF hx hb hG C_MD iG_MD hown hK hP hS k_14 11 (by decide) gm684 rfl hname rfl (v := .ref v11) rfl rfl (Nat.le_of_ble_eq_true rfl) d_MD_init_23 (fun H locs hP hS => ?_)
  obtain ⟨h_17, eh_18⟩ : ∃ z : fh_H, z = va_up h_12 md (some (.inr (7, [.int 0, .int 0, .int 0, .int 0, .int 0, .int 0, .int 0, .int 0, .int 3, .ref v9, .int 0, .ref v11, .null, .null, .int 0, .int 0, .null, .null, .null, .null, .null, .int 0, .null, .null, .int 0, .int 0, .int 0, .int 0, .int 0]))) := ⟨_, rfl⟩
  have hP : fh_P E.1 vwCl A h_17 H := by rw [eh_18]; exact hP
  have k_19 : h_17 v9 = some (.inl (fh_cI E, 256, .inl (fun _ => 0))) := by rw [eh_18]; exact fh_up k_15 (fh_neA k_15 k_14)
  have k_20 : h_17 v11 = some (.inl (fh_cI E, 11, .inl (fun _ => 0))) := by rw [eh_18]; exact fh_up k_16 (fh_neA k_16 k_14)
  have k_21 : h_17 md = some (.inr (7, [.int 0, .int 0, .int 0, .int 0, .int 0, .int 0, .int 0, .int 0, .int 3, .ref v9, .int 0, .ref v11, .null, .null, .int 0, .int 0, .null, .null, .null, .null, .null, .int 0, .null, .null, .int 0, .int 0, .int 0, .int 0, .int 0])) := by rw [eh_18]; exact va_up_self _ _ _
  have F_5 : ∀ b e, h b = some e → b ≠ md → h_17 b = some e := fun b e hb n9 => by rw [eh_18, va_up_ne _ _ n9]; exact F_4 b e hb n9
  have D_5 : ∀ b, h_17 b = none → h b = none := fun b hb => D_4 b (dm_up eh_18 b hb)
  refine lv_aload_n hx hb d_MD_init_26 rfl (lv_at hl 0 rfl) ?_
  refine lv_bipush (v := 11) hx hb d_MD_init_27 (by decide) ?_
  refine fh_newa (atype := .int) (ty := .int) hx hb (hG (Cond.arrayClass FieldType.int) gm129) rfl hK hP hS hA 0 rfl (fun _ _ => ra_int) (a0 := (11, .inl (fun _ => 0))) (fun _ => rfl) (by decide) (N' := 11) (by decide) (by decide) (Nat.le_of_ble_eq_true rfl) (Nat.le_of_ble_eq_true rfl) d_MD_init_29 (fun v12 H f12 hP hS => ?_)
  have ne_9_12 : v9 ≠ v12 := fh_neF k_19 f12
  have ne_11_12 : v11 ≠ v12 := fh_neF k_20 f12
  have o12 : h v12 = none := D_5 v12 f12
  have om12 : md ≠ v12 := fh_neF k_21 f12
  obtain ⟨h_22, eh_23⟩ : ∃ z : fh_H, z = va_up h_17 v12 (some (.inl (fh_cI E, 11, .inl (fun _ => 0)))) := ⟨_, rfl⟩
  have hP : fh_P E.1 vwCl A h_22 H := by rw [eh_23]; exact hP
  have k_24 : h_22 md = some (.inr (7, [.int 0, .int 0, .int 0, .int 0, .int 0, .int 0, .int 0, .int 0, .int 3, .ref v9, .int 0, .ref v11, .null, .null, .int 0, .int 0, .null, .null, .null, .null, .null, .int 0, .null, .null, .int 0, .int 0, .int 0, .int 0, .int 0])) := by rw [eh_23]; exact fh_up k_21 (fh_neF k_21 f12)
  have k_25 : h_22 v9 = some (.inl (fh_cI E, 256, .inl (fun _ => 0))) := by rw [eh_23]; exact fh_up k_19 (fh_neF k_19 f12)
  have k_26 : h_22 v11 = some (.inl (fh_cI E, 11, .inl (fun _ => 0))) := by rw [eh_23]; exact fh_up k_20 (fh_neF k_20 f12)
  have k_27 : h_22 v12 = some (.inl (fh_cI E, 11, .inl (fun _ => 0))) := by rw [eh_23]; exact va_up_self _ _ _
  have F_6 : ∀ b e, h b = some e → b ≠ md → h_22 b = some e := fun b e hb n9 => by rw [eh_23, va_up_ne _ _ (fh_neF (F_5 b e hb n9) f12)]; exact F_5 b e hb n9
  have D_6 : ∀ b, h_22 b = none → h b = none := fun b hb => D_5 b (dm_up eh_23 b hb)
  refine fh_putF hx hb hG C_MD iG_MD hown hK hP hS k_24 12 (by decide) gm685 rfl hname rfl (v := .ref v12) rfl rfl (Nat.le_of_ble_eq_true rfl) d_MD_init_31 (fun H locs hP hS => ?_)
  obtain ⟨h_28, eh_29⟩ : ∃ z : fh_H, z = va_up h_22 md (some (.inr (7, [.int 0, .int 0, .int 0, .int 0, .int 0, .int 0, .int 0, .int 0, .int 3, .ref v9, .int 0, .ref v11, .ref v12, .null, .int 0, .int 0, .null, .null, .null, .null, .null, .int 0, .null, .null, .int 0, .int 0, .int 0, .int 0, .int 0]))) := ⟨_, rfl⟩
  have hP : fh_P E.1 vwCl A h_28 H := by rw [eh_29]; exact hP
  have k_30 : h_28 v9 = some (.inl (fh_cI E, 256, .inl (fun _ => 0))) := by rw [eh_29]; exact fh_up k_25 (fh_neA k_25 k_24)
  have k_31 : h_28 v11 = some (.inl (fh_cI E, 11, .inl (fun _ => 0))) := by rw [eh_29]; exact fh_up k_26 (fh_neA k_26 k_24)
  have k_32 : h_28 v12 = some (.inl (fh_cI E, 11, .inl (fun _ => 0))) := by rw [eh_29]; exact fh_up k_27 (fh_neA k_27 k_24)
  have k_33 : h_28 md = some (.inr (7, [.int 0, .int 0, .int 0, .int 0, .int 0, .int 0, .int 0, .int 0, .int 3, .ref v9, .int 0, .ref v11, .ref v12, .null, .int 0, .int 0, .null, .null, .null, .null, .null, .int 0, .null, .null, .int 0, .int 0, .int 0, .int 0, .int 0])) := by rw [eh_29]; exact va_up_self _ _ _
  have F_7 : ∀ b e, h b = some e → b ≠ md → h_28 b = some e := fun b e hb n9 => by rw [eh_29, va_up_ne _ _ n9]; exact F_6 b e hb n9
  have D_7 : ∀ b, h_28 b = none → h b = none := fun b hb => D_6 b (dm_up eh_29 b hb)
  refine lv_aload_n hx hb d_MD_init_34 rfl (lv_at hl 0 rfl) ?_
  refine lv_bipush (v := 11) hx hb d_MD_init_35 (by decide) ?_
  refine fh_newa (atype := .boolean) (ty := .boolean) hx hb (hG (Cond.arrayClass FieldType.boolean) gm761) rfl hK hP hS hA 3 rfl (fun _ _ => ra_bool) (a0 := (11, .inl (fun _ => 0))) (fun _ => rfl) (by decide) (N' := 11) (by decide) (by decide) (Nat.le_of_ble_eq_true rfl) (Nat.le_of_ble_eq_true rfl) d_MD_init_37 (fun v13 H f13 hP hS => ?_)
  have ne_9_13 : v9 ≠ v13 := fh_neF k_30 f13
  have ne_11_13 : v11 ≠ v13 := fh_neF k_31 f13
  have ne_12_13 : v12 ≠ v13 := fh_neF k_32 f13
  have o13 : h v13 = none := D_7 v13 f13
  have om13 : md ≠ v13 := fh_neF k_33 f13
  obtain ⟨h_34, eh_35⟩ : ∃ z : fh_H, z = va_up h_28 v13 (some (.inl (fh_cZ E, 11, .inl (fun _ => 0)))) := ⟨_, rfl⟩
  have hP : fh_P E.1 vwCl A h_34 H := by rw [eh_35]; exact hP
  have k_36 : h_34 md = some (.inr (7, [.int 0, .int 0, .int 0, .int 0, .int 0, .int 0, .int 0, .int 0, .int 3, .ref v9, .int 0, .ref v11, .ref v12, .null, .int 0, .int 0, .null, .null, .null, .null, .null, .int 0, .null, .null, .int 0, .int 0, .int 0, .int 0, .int 0])) := by rw [eh_35]; exact fh_up k_33 (fh_neF k_33 f13)
  have k_37 : h_34 v9 = some (.inl (fh_cI E, 256, .inl (fun _ => 0))) := by rw [eh_35]; exact fh_up k_30 (fh_neF k_30 f13)
  have k_38 : h_34 v11 = some (.inl (fh_cI E, 11, .inl (fun _ => 0))) := by rw [eh_35]; exact fh_up k_31 (fh_neF k_31 f13)
  have k_39 : h_34 v12 = some (.inl (fh_cI E, 11, .inl (fun _ => 0))) := by rw [eh_35]; exact fh_up k_32 (fh_neF k_32 f13)
  have k_40 : h_34 v13 = some (.inl (fh_cZ E, 11, .inl (fun _ => 0))) := by rw [eh_35]; exact va_up_self _ _ _
  have F_8 : ∀ b e, h b = some e → b ≠ md → h_34 b = some e := fun b e hb n9 => by rw [eh_35, va_up_ne _ _ (fh_neF (F_7 b e hb n9) f13)]; exact F_7 b e hb n9
  have D_8 : ∀ b, h_34 b = none → h b = none := fun b hb => D_7 b (dm_up eh_35 b hb)
  refine fh_putF hx hb hG C_MD iG_MD hown hK hP hS k_36 13 (by decide) gm686 rfl hname rfl (v := .ref v13) rfl rfl (Nat.le_of_ble_eq_true rfl) d_MD_init_39 (fun H locs hP hS => ?_)
  obtain ⟨h_41, eh_42⟩ : ∃ z : fh_H, z = va_up h_34 md (some (.inr (7, [.int 0, .int 0, .int 0, .int 0, .int 0, .int 0, .int 0, .int 0, .int 3, .ref v9, .int 0, .ref v11, .ref v12, .ref v13, .int 0, .int 0, .null, .null, .null, .null, .null, .int 0, .null, .null, .int 0, .int 0, .int 0, .int 0, .int 0]))) := ⟨_, rfl⟩
  have hP : fh_P E.1 vwCl A h_41 H := by rw [eh_42]; exact hP
  have k_43 : h_41 v9 = some (.inl (fh_cI E, 256, .inl (fun _ => 0))) := by rw [eh_42]; exact fh_up k_37 (fh_neA k_37 k_36)
  have k_44 : h_41 v11 = some (.inl (fh_cI E, 11, .inl (fun _ => 0))) := by rw [eh_42]; exact fh_up k_38 (fh_neA k_38 k_36)
  have k_45 : h_41 v12 = some (.inl (fh_cI E, 11, .inl (fun _ => 0))) := by rw [eh_42]; exact fh_up k_39 (fh_neA k_39 k_36)
  have k_46 : h_41 v13 = some (.inl (fh_cZ E, 11, .inl (fun _ => 0))) := by rw [eh_42]; exact fh_up k_40 (fh_neA k_40 k_36)
  have k_47 : h_41 md = some (.inr (7, [.int 0, .int 0, .int 0, .int 0, .int 0, .int 0, .int 0, .int 0, .int 3, .ref v9, .int 0, .ref v11, .ref v12, .ref v13, .int 0, .int 0, .null, .null, .null, .null, .null, .int 0, .null, .null, .int 0, .int 0, .int 0, .int 0, .int 0])) := by rw [eh_42]; exact va_up_self _ _ _
  have F_9 : ∀ b e, h b = some e → b ≠ md → h_41 b = some e := fun b e hb n9 => by rw [eh_42, va_up_ne _ _ n9]; exact F_8 b e hb n9
  have D_9 : ∀ b, h_41 b = none → h b = none := fun b hb => D_8 b (dm_up eh_42 b hb)
  refine lv_aload_n hx hb d_MD_init_42 rfl (lv_at hl 0 rfl) ?_
  refine lv_bipush (v := 41) hx hb d_MD_init_43 (by decide) ?_
  refine fh_newa (atype := .int) (ty := .int) hx hb (hG (Cond.arrayClass FieldType.int) gm129) rfl hK hP hS hA 0 rfl (fun _ _ => ra_int) (a0 := (41, .inl (fun _ => 0))) (fun _ => rfl) (by decide) (N' := 41) (by decide) (by decide) (Nat.le_of_ble_eq_true rfl) (Nat.le_of_ble_eq_true rfl) d_MD_init_45 (fun v16 H f16 hP hS => ?_)
  have ne_9_16 : v9 ≠ v16 := fh_neF k_43 f16
  have ne_11_16 : v11 ≠ v16 := fh_neF k_44 f16
  have ne_12_16 : v12 ≠ v16 := fh_neF k_45 f16
  have ne_13_16 : v13 ≠ v16 := fh_neF k_46 f16
  have o16 : h v16 = none := D_9 v16 f16
  have om16 : md ≠ v16 := fh_neF k_47 f16
  obtain ⟨h_48, eh_49⟩ : ∃ z : fh_H, z = va_up h_41 v16 (some (.inl (fh_cI E, 41, .inl (fun _ => 0)))) := ⟨_, rfl⟩
  have hP : fh_P E.1 vwCl A h_48 H := by rw [eh_49]; exact hP
  have k_50 : h_48 md = some (.inr (7, [.int 0, .int 0, .int 0, .int 0, .int 0, .int 0, .int 0, .int 0, .int 3, .ref v9, .int 0, .ref v11, .ref v12, .ref v13, .int 0, .int 0, .null, .null, .null, .null, .null, .int 0, .null, .null, .int 0, .int 0, .int 0, .int 0, .int 0])) := by rw [eh_49]; exact fh_up k_47 (fh_neF k_47 f16)
  have k_51 : h_48 v9 = some (.inl (fh_cI E, 256, .inl (fun _ => 0))) := by rw [eh_49]; exact fh_up k_43 (fh_neF k_43 f16)
  have k_52 : h_48 v11 = some (.inl (fh_cI E, 11, .inl (fun _ => 0))) := by rw [eh_49]; exact fh_up k_44 (fh_neF k_44 f16)
  have k_53 : h_48 v12 = some (.inl (fh_cI E, 11, .inl (fun _ => 0))) := by rw [eh_49]; exact fh_up k_45 (fh_neF k_45 f16)
  have k_54 : h_48 v13 = some (.inl (fh_cZ E, 11, .inl (fun _ => 0))) := by rw [eh_49]; exact fh_up k_46 (fh_neF k_46 f16)
  have k_55 : h_48 v16 = some (.inl (fh_cI E, 41, .inl (fun _ => 0))) := by rw [eh_49]; exact va_up_self _ _ _
  have F_10 : ∀ b e, h b = some e → b ≠ md → h_48 b = some e := fun b e hb n9 => by rw [eh_49, va_up_ne _ _ (fh_neF (F_9 b e hb n9) f16)]; exact F_9 b e hb n9
  have D_10 : ∀ b, h_48 b = none → h b = none := fun b hb => D_9 b (dm_up eh_49 b hb)
  refine fh_putF hx hb hG C_MD iG_MD hown hK hP hS k_50 16 (by decide) gm689 rfl hname rfl (v := .ref v16) rfl rfl (Nat.le_of_ble_eq_true rfl) d_MD_init_47 (fun H locs hP hS => ?_)
  obtain ⟨h_56, eh_57⟩ : ∃ z : fh_H, z = va_up h_48 md (some (.inr (7, [.int 0, .int 0, .int 0, .int 0, .int 0, .int 0, .int 0, .int 0, .int 3, .ref v9, .int 0, .ref v11, .ref v12, .ref v13, .int 0, .int 0, .ref v16, .null, .null, .null, .null, .int 0, .null, .null, .int 0, .int 0, .int 0, .int 0, .int 0]))) := ⟨_, rfl⟩
  have hP : fh_P E.1 vwCl A h_56 H := by rw [eh_57]; exact hP
  have k_58 : h_56 v9 = some (.inl (fh_cI E, 256, .inl (fun _ => 0))) := by rw [eh_57]; exact fh_up k_51 (fh_neA k_51 k_50)
  have k_59 : h_56 v11 = some (.inl (fh_cI E, 11, .inl (fun _ => 0))) := by rw [eh_57]; exact fh_up k_52 (fh_neA k_52 k_50)
  have k_60 : h_56 v12 = some (.inl (fh_cI E, 11, .inl (fun _ => 0))) := by rw [eh_57]; exact fh_up k_53 (fh_neA k_53 k_50)
  have k_61 : h_56 v13 = some (.inl (fh_cZ E, 11, .inl (fun _ => 0))) := by rw [eh_57]; exact fh_up k_54 (fh_neA k_54 k_50)
  have k_62 : h_56 v16 = some (.inl (fh_cI E, 41, .inl (fun _ => 0))) := by rw [eh_57]; exact fh_up k_55 (fh_neA k_55 k_50)
  have k_63 : h_56 md = some (.inr (7, [.int 0, .int 0, .int 0, .int 0, .int 0, .int 0, .int 0, .int 0, .int 3, .ref v9, .int 0, .ref v11, .ref v12, .ref v13, .int 0, .int 0, .ref v16, .null, .null, .null, .null, .int 0, .null, .null, .int 0, .int 0, .int 0, .int 0, .int 0])) := by rw [eh_57]; exact va_up_self _ _ _
  have F_11 : ∀ b e, h b = some e → b ≠ md → h_56 b = some e := fun b e hb n9 => by rw [eh_57, va_up_ne _ _ n9]; exact F_10 b e hb n9
  have D_11 : ∀ b, h_56 b = none → h b = none := fun b hb => D_10 b (dm_up eh_57 b hb)
  refine lv_aload_n hx hb d_MD_init_50 rfl (lv_at hl 0 rfl) ?_
  refine lv_bipush (v := 41) hx hb d_MD_init_51 (by decide) ?_
  refine fh_newa (atype := .int) (ty := .int) hx hb (hG (Cond.arrayClass FieldType.int) gm129) rfl hK hP hS hA 0 rfl (fun _ _ => ra_int) (a0 := (41, .inl (fun _ => 0))) (fun _ => rfl) (by decide) (N' := 41) (by decide) (by decide) (Nat.le_of_ble_eq_true rfl) (Nat.le_of_ble_eq_true rfl) d_MD_init_53 (fun v17 H f17 hP hS => ?_)
  have ne_9_17 : v9 ≠ v17 := fh_neF k_58 f17
  have ne_11_17 : v11 ≠ v17 := fh_neF k_59 f17
  have ne_12_17 : v12 ≠ v17 := fh_neF k_60 f17
  have ne_13_17 : v13 ≠ v17 := fh_neF k_61 f17
  have ne_16_17 : v16 ≠ v17 := fh_neF k_62 f17
  have o17 : h v17 = none := D_11 v17 f17
  have om17 : md ≠ v17 := fh_neF k_63 f17
  obtain ⟨h_64, eh_65⟩ : ∃ z : fh_H, z = va_up h_56 v17 (some (.inl (fh_cI E, 41, .inl (fun _ => 0)))) := ⟨_, rfl⟩
  have hP : fh_P E.1 vwCl A h_64 H := by rw [eh_65]; exact hP
  have k_66 : h_64 md = some (.inr (7, [.int 0, .int 0, .int 0, .int 0, .int 0, .int 0, .int 0, .int 0, .int 3, .ref v9, .int 0, .ref v11, .ref v12, .ref v13, .int 0, .int 0, .ref v16, .null, .null, .null, .null, .int 0, .null, .null, .int 0, .int 0, .int 0, .int 0, .int 0])) := by rw [eh_65]; exact fh_up k_63 (fh_neF k_63 f17)
  have k_67 : h_64 v9 = some (.inl (fh_cI E, 256, .inl (fun _ => 0))) := by rw [eh_65]; exact fh_up k_58 (fh_neF k_58 f17)
  have k_68 : h_64 v11 = some (.inl (fh_cI E, 11, .inl (fun _ => 0))) := by rw [eh_65]; exact fh_up k_59 (fh_neF k_59 f17)
  have k_69 : h_64 v12 = some (.inl (fh_cI E, 11, .inl (fun _ => 0))) := by rw [eh_65]; exact fh_up k_60 (fh_neF k_60 f17)
  have k_70 : h_64 v13 = some (.inl (fh_cZ E, 11, .inl (fun _ => 0))) := by rw [eh_65]; exact fh_up k_61 (fh_neF k_61 f17)
  have k_71 : h_64 v16 = some (.inl (fh_cI E, 41, .inl (fun _ => 0))) := by rw [eh_65]; exact fh_up k_62 (fh_neF k_62 f17)
  have k_72 : h_64 v17 = some (.inl (fh_cI E, 41, .inl (fun _ => 0))) := by rw [eh_65]; exact va_up_self _ _ _
  have F_12 : ∀ b e, h b = some e → b ≠ md → h_64 b = some e := fun b e hb n9 => by rw [eh_65, va_up_ne _ _ (fh_neF (F_11 b e hb n9) f17)]; exact F_11 b e hb n9
  have D_12 : ∀ b, h_64 b = none → h b = none := fun b hb => D_11 b (dm_up eh_65 b hb)
  refine fh_putF hx hb hG C_MD iG_MD hown hK hP hS k_66 17 (by decide) gm690 rfl hname rfl (v := .ref v17) rfl rfl (Nat.le_of_ble_eq_true rfl) d_MD_init_55 (fun H locs hP hS => ?_)
  obtain ⟨h_73, eh_74⟩ : ∃ z : fh_H, z = va_up h_64 md (some (.inr (7, [.int 0, .int 0, .int 0, .int 0, .int 0, .int 0, .int 0, .int 0, .int 3, .ref v9, .int 0, .ref v11, .ref v12, .ref v13, .int 0, .int 0, .ref v16, .ref v17, .null, .null, .null, .int 0, .null, .null, .int 0, .int 0, .int 0, .int 0, .int 0]))) := ⟨_, rfl⟩
  have hP : fh_P E.1 vwCl A h_73 H := by rw [eh_74]; exact hP
  have k_75 : h_73 v9 = some (.inl (fh_cI E, 256, .inl (fun _ => 0))) := by rw [eh_74]; exact fh_up k_67 (fh_neA k_67 k_66)
  have k_76 : h_73 v11 = some (.inl (fh_cI E, 11, .inl (fun _ => 0))) := by rw [eh_74]; exact fh_up k_68 (fh_neA k_68 k_66)
  have k_77 : h_73 v12 = some (.inl (fh_cI E, 11, .inl (fun _ => 0))) := by rw [eh_74]; exact fh_up k_69 (fh_neA k_69 k_66)
  have k_78 : h_73 v13 = some (.inl (fh_cZ E, 11, .inl (fun _ => 0))) := by rw [eh_74]; exact fh_up k_70 (fh_neA k_70 k_66)
  have k_79 : h_73 v16 = some (.inl (fh_cI E, 41, .inl (fun _ => 0))) := by rw [eh_74]; exact fh_up k_71 (fh_neA k_71 k_66)
  have k_80 : h_73 v17 = some (.inl (fh_cI E, 41, .inl (fun _ => 0))) := by rw [eh_74]; exact fh_up k_72 (fh_neA k_72 k_66)
  have k_81 : h_73 md = some (.inr (7, [.int 0, .int 0, .int 0, .int 0, .int 0, .int 0, .int 0, .int 0, .int 3, .ref v9, .int 0, .ref v11, .ref v12, .ref v13, .int 0, .int 0, .ref v16, .ref v17, .null, .null, .null, .int 0, .null, .null, .int 0, .int 0, .int 0, .int 0, .int 0])) := by rw [eh_74]; exact va_up_self _ _ _
  have F_13 : ∀ b e, h b = some e → b ≠ md → h_73 b = some e := fun b e hb n9 => by rw [eh_74, va_up_ne _ _ n9]; exact F_12 b e hb n9
  have D_13 : ∀ b, h_73 b = none → h b = none := fun b hb => D_12 b (dm_up eh_74 b hb)
  refine lv_aload_n hx hb d_MD_init_58 rfl (lv_at hl 0 rfl) ?_
  refine lv_bipush (v := 41) hx hb d_MD_init_59 (by decide) ?_
  refine fh_newa (atype := .int) (ty := .int) hx hb (hG (Cond.arrayClass FieldType.int) gm129) rfl hK hP hS hA 0 rfl (fun _ _ => ra_int) (a0 := (41, .inl (fun _ => 0))) (fun _ => rfl) (by decide) (N' := 41) (by decide) (by decide) (Nat.le_of_ble_eq_true rfl) (Nat.le_of_ble_eq_true rfl) d_MD_init_61 (fun v18 H f18 hP hS => ?_)
  have ne_9_18 : v9 ≠ v18 := fh_neF k_75 f18
  have ne_11_18 : v11 ≠ v18 := fh_neF k_76 f18
  have ne_12_18 : v12 ≠ v18 := fh_neF k_77 f18
  have ne_13_18 : v13 ≠ v18 := fh_neF k_78 f18
  have ne_16_18 : v16 ≠ v18 := fh_neF k_79 f18
  have ne_17_18 : v17 ≠ v18 := fh_neF k_80 f18
  have o18 : h v18 = none := D_13 v18 f18
  have om18 : md ≠ v18 := fh_neF k_81 f18
  obtain ⟨h_82, eh_83⟩ : ∃ z : fh_H, z = va_up h_73 v18 (some (.inl (fh_cI E, 41, .inl (fun _ => 0)))) := ⟨_, rfl⟩
  have hP : fh_P E.1 vwCl A h_82 H := by rw [eh_83]; exact hP
  have k_84 : h_82 md = some (.inr (7, [.int 0, .int 0, .int 0, .int 0, .int 0, .int 0, .int 0, .int 0, .int 3, .ref v9, .int 0, .ref v11, .ref v12, .ref v13, .int 0, .int 0, .ref v16, .ref v17, .null, .null, .null, .int 0, .null, .null, .int 0, .int 0, .int 0, .int 0, .int 0])) := by rw [eh_83]; exact fh_up k_81 (fh_neF k_81 f18)
  have k_85 : h_82 v9 = some (.inl (fh_cI E, 256, .inl (fun _ => 0))) := by rw [eh_83]; exact fh_up k_75 (fh_neF k_75 f18)
  have k_86 : h_82 v11 = some (.inl (fh_cI E, 11, .inl (fun _ => 0))) := by rw [eh_83]; exact fh_up k_76 (fh_neF k_76 f18)
  have k_87 : h_82 v12 = some (.inl (fh_cI E, 11, .inl (fun _ => 0))) := by rw [eh_83]; exact fh_up k_77 (fh_neF k_77 f18)
  have k_88 : h_82 v13 = some (.inl (fh_cZ E, 11, .inl (fun _ => 0))) := by rw [eh_83]; exact fh_up k_78 (fh_neF k_78 f18)
  have k_89 : h_82 v16 = some (.inl (fh_cI E, 41, .inl (fun _ => 0))) := by rw [eh_83]; exact fh_up k_79 (fh_neF k_79 f18)
  have k_90 : h_82 v17 = some (.inl (fh_cI E, 41, .inl (fun _ => 0))) := by rw [eh_83]; exact fh_up k_80 (fh_neF k_80 f18)
  have k_91 : h_82 v18 = some (.inl (fh_cI E, 41, .inl (fun _ => 0))) := by rw [eh_83]; exact va_up_self _ _ _
  have F_14 : ∀ b e, h b = some e → b ≠ md → h_82 b = some e := fun b e hb n9 => by rw [eh_83, va_up_ne _ _ (fh_neF (F_13 b e hb n9) f18)]; exact F_13 b e hb n9
  have D_14 : ∀ b, h_82 b = none → h b = none := fun b hb => D_13 b (dm_up eh_83 b hb)
  refine fh_putF hx hb hG C_MD iG_MD hown hK hP hS k_84 18 (by decide) gm691 rfl hname rfl (v := .ref v18) rfl rfl (Nat.le_of_ble_eq_true rfl) d_MD_init_63 (fun H locs hP hS => ?_)
  obtain ⟨h_92, eh_93⟩ : ∃ z : fh_H, z = va_up h_82 md (some (.inr (7, [.int 0, .int 0, .int 0, .int 0, .int 0, .int 0, .int 0, .int 0, .int 3, .ref v9, .int 0, .ref v11, .ref v12, .ref v13, .int 0, .int 0, .ref v16, .ref v17, .ref v18, .null, .null, .int 0, .null, .null, .int 0, .int 0, .int 0, .int 0, .int 0]))) := ⟨_, rfl⟩
  have hP : fh_P E.1 vwCl A h_92 H := by rw [eh_93]; exact hP
  have k_94 : h_92 v9 = some (.inl (fh_cI E, 256, .inl (fun _ => 0))) := by rw [eh_93]; exact fh_up k_85 (fh_neA k_85 k_84)
  have k_95 : h_92 v11 = some (.inl (fh_cI E, 11, .inl (fun _ => 0))) := by rw [eh_93]; exact fh_up k_86 (fh_neA k_86 k_84)
  have k_96 : h_92 v12 = some (.inl (fh_cI E, 11, .inl (fun _ => 0))) := by rw [eh_93]; exact fh_up k_87 (fh_neA k_87 k_84)
  have k_97 : h_92 v13 = some (.inl (fh_cZ E, 11, .inl (fun _ => 0))) := by rw [eh_93]; exact fh_up k_88 (fh_neA k_88 k_84)
  have k_98 : h_92 v16 = some (.inl (fh_cI E, 41, .inl (fun _ => 0))) := by rw [eh_93]; exact fh_up k_89 (fh_neA k_89 k_84)
  have k_99 : h_92 v17 = some (.inl (fh_cI E, 41, .inl (fun _ => 0))) := by rw [eh_93]; exact fh_up k_90 (fh_neA k_90 k_84)
  have k_100 : h_92 v18 = some (.inl (fh_cI E, 41, .inl (fun _ => 0))) := by rw [eh_93]; exact fh_up k_91 (fh_neA k_91 k_84)
  have k_101 : h_92 md = some (.inr (7, [.int 0, .int 0, .int 0, .int 0, .int 0, .int 0, .int 0, .int 0, .int 3, .ref v9, .int 0, .ref v11, .ref v12, .ref v13, .int 0, .int 0, .ref v16, .ref v17, .ref v18, .null, .null, .int 0, .null, .null, .int 0, .int 0, .int 0, .int 0, .int 0])) := by rw [eh_93]; exact va_up_self _ _ _
  have F_15 : ∀ b e, h b = some e → b ≠ md → h_92 b = some e := fun b e hb n9 => by rw [eh_93, va_up_ne _ _ n9]; exact F_14 b e hb n9
  have D_15 : ∀ b, h_92 b = none → h b = none := fun b hb => D_14 b (dm_up eh_93 b hb)
  refine lv_aload_n hx hb d_MD_init_66 rfl (lv_at hl 0 rfl) ?_
  refine lv_bipush (v := 41) hx hb d_MD_init_67 (by decide) ?_
  refine fh_newa (atype := .int) (ty := .int) hx hb (hG (Cond.arrayClass FieldType.int) gm129) rfl hK hP hS hA 0 rfl (fun _ _ => ra_int) (a0 := (41, .inl (fun _ => 0))) (fun _ => rfl) (by decide) (N' := 41) (by decide) (by decide) (Nat.le_of_ble_eq_true rfl) (Nat.le_of_ble_eq_true rfl) d_MD_init_69 (fun v19 H f19 hP hS => ?_)
  have ne_9_19 : v9 ≠ v19 := fh_neF k_94 f19
  have ne_11_19 : v11 ≠ v19 := fh_neF k_95 f19
  have ne_12_19 : v12 ≠ v19 := fh_neF k_96 f19
  have ne_13_19 : v13 ≠ v19 := fh_neF k_97 f19
  have ne_16_19 : v16 ≠ v19 := fh_neF k_98 f19
  have ne_17_19 : v17 ≠ v19 := fh_neF k_99 f19
  have ne_18_19 : v18 ≠ v19 := fh_neF k_100 f19
  have o19 : h v19 = none := D_15 v19 f19
  have om19 : md ≠ v19 := fh_neF k_101 f19
  obtain ⟨h_102, eh_103⟩ : ∃ z : fh_H, z = va_up h_92 v19 (some (.inl (fh_cI E, 41, .inl (fun _ => 0)))) := ⟨_, rfl⟩
  have hP : fh_P E.1 vwCl A h_102 H := by rw [eh_103]; exact hP
  have k_104 : h_102 md = some (.inr (7, [.int 0, .int 0, .int 0, .int 0, .int 0, .int 0, .int 0, .int 0, .int 3, .ref v9, .int 0, .ref v11, .ref v12, .ref v13, .int 0, .int 0, .ref v16, .ref v17, .ref v18, .null, .null, .int 0, .null, .null, .int 0, .int 0, .int 0, .int 0, .int 0])) := by rw [eh_103]; exact fh_up k_101 (fh_neF k_101 f19)
  have k_105 : h_102 v9 = some (.inl (fh_cI E, 256, .inl (fun _ => 0))) := by rw [eh_103]; exact fh_up k_94 (fh_neF k_94 f19)
  have k_106 : h_102 v11 = some (.inl (fh_cI E, 11, .inl (fun _ => 0))) := by rw [eh_103]; exact fh_up k_95 (fh_neF k_95 f19)
  have k_107 : h_102 v12 = some (.inl (fh_cI E, 11, .inl (fun _ => 0))) := by rw [eh_103]; exact fh_up k_96 (fh_neF k_96 f19)
  have k_108 : h_102 v13 = some (.inl (fh_cZ E, 11, .inl (fun _ => 0))) := by rw [eh_103]; exact fh_up k_97 (fh_neF k_97 f19)
  have k_109 : h_102 v16 = some (.inl (fh_cI E, 41, .inl (fun _ => 0))) := by rw [eh_103]; exact fh_up k_98 (fh_neF k_98 f19)
  have k_110 : h_102 v17 = some (.inl (fh_cI E, 41, .inl (fun _ => 0))) := by rw [eh_103]; exact fh_up k_99 (fh_neF k_99 f19)
  have k_111 : h_102 v18 = some (.inl (fh_cI E, 41, .inl (fun _ => 0))) := by rw [eh_103]; exact fh_up k_100 (fh_neF k_100 f19)
  have k_112 : h_102 v19 = some (.inl (fh_cI E, 41, .inl (fun _ => 0))) := by rw [eh_103]; exact va_up_self _ _ _
  have F_16 : ∀ b e, h b = some e → b ≠ md → h_102 b = some e := fun b e hb n9 => by rw [eh_103, va_up_ne _ _ (fh_neF (F_15 b e hb n9) f19)]; exact F_15 b e hb n9
  have D_16 : ∀ b, h_102 b = none → h b = none := fun b hb => D_15 b (dm_up eh_103 b hb)
  refine fh_putF hx hb hG C_MD iG_MD hown hK hP hS k_104 19 (by decide) gm692 rfl hname rfl (v := .ref v19) rfl rfl (Nat.le_of_ble_eq_true rfl) d_MD_init_71 (fun H locs hP hS => ?_)
  obtain ⟨h_113, eh_114⟩ : ∃ z : fh_H, z = va_up h_102 md (some (.inr (7, [.int 0, .int 0, .int 0, .int 0, .int 0, .int 0, .int 0, .int 0, .int 3, .ref v9, .int 0, .ref v11, .ref v12, .ref v13, .int 0, .int 0, .ref v16, .ref v17, .ref v18, .ref v19, .null, .int 0, .null, .null, .int 0, .int 0, .int 0, .int 0, .int 0]))) := ⟨_, rfl⟩
  have hP : fh_P E.1 vwCl A h_113 H := by rw [eh_114]; exact hP
  have k_115 : h_113 v9 = some (.inl (fh_cI E, 256, .inl (fun _ => 0))) := by rw [eh_114]; exact fh_up k_105 (fh_neA k_105 k_104)
  have k_116 : h_113 v11 = some (.inl (fh_cI E, 11, .inl (fun _ => 0))) := by rw [eh_114]; exact fh_up k_106 (fh_neA k_106 k_104)
  have k_117 : h_113 v12 = some (.inl (fh_cI E, 11, .inl (fun _ => 0))) := by rw [eh_114]; exact fh_up k_107 (fh_neA k_107 k_104)
  have k_118 : h_113 v13 = some (.inl (fh_cZ E, 11, .inl (fun _ => 0))) := by rw [eh_114]; exact fh_up k_108 (fh_neA k_108 k_104)
  have k_119 : h_113 v16 = some (.inl (fh_cI E, 41, .inl (fun _ => 0))) := by rw [eh_114]; exact fh_up k_109 (fh_neA k_109 k_104)
  have k_120 : h_113 v17 = some (.inl (fh_cI E, 41, .inl (fun _ => 0))) := by rw [eh_114]; exact fh_up k_110 (fh_neA k_110 k_104)
  have k_121 : h_113 v18 = some (.inl (fh_cI E, 41, .inl (fun _ => 0))) := by rw [eh_114]; exact fh_up k_111 (fh_neA k_111 k_104)
  have k_122 : h_113 v19 = some (.inl (fh_cI E, 41, .inl (fun _ => 0))) := by rw [eh_114]; exact fh_up k_112 (fh_neA k_112 k_104)
  have k_123 : h_113 md = some (.inr (7, [.int 0, .int 0, .int 0, .int 0, .int 0, .int 0, .int 0, .int 0, .int 3, .ref v9, .int 0, .ref v11, .ref v12, .ref v13, .int 0, .int 0, .ref v16, .ref v17, .ref v18, .ref v19, .null, .int 0, .null, .null, .int 0, .int 0, .int 0, .int 0, .int 0])) := by rw [eh_114]; exact va_up_self _ _ _
  have F_17 : ∀ b e, h b = some e → b ≠ md → h_113 b = some e := fun b e hb n9 => by rw [eh_114, va_up_ne _ _ n9]; exact F_16 b e hb n9
  have D_17 : ∀ b, h_113 b = none → h b = none := fun b hb => D_16 b (dm_up eh_114 b hb)
  refine lv_aload_n hx hb d_MD_init_74 rfl (lv_at hl 0 rfl) ?_
  refine lv_bipush (v := 41) hx hb d_MD_init_75 (by decide) ?_
  refine fh_newa (atype := .int) (ty := .int) hx hb (hG (Cond.arrayClass FieldType.int) gm129) rfl hK hP hS hA 0 rfl (fun _ _ => ra_int) (a0 := (41, .inl (fun _ => 0))) (fun _ => rfl) (by decide) (N' := 41) (by decide) (by decide) (Nat.le_of_ble_eq_true rfl) (Nat.le_of_ble_eq_true rfl) d_MD_init_77 (fun v20 H f20 hP hS => ?_)
  have ne_9_20 : v9 ≠ v20 := fh_neF k_115 f20
  have ne_11_20 : v11 ≠ v20 := fh_neF k_116 f20
  have ne_12_20 : v12 ≠ v20 := fh_neF k_117 f20
  have ne_13_20 : v13 ≠ v20 := fh_neF k_118 f20
  have ne_16_20 : v16 ≠ v20 := fh_neF k_119 f20
  have ne_17_20 : v17 ≠ v20 := fh_neF k_120 f20
  have ne_18_20 : v18 ≠ v20 := fh_neF k_121 f20
  have ne_19_20 : v19 ≠ v20 := fh_neF k_122 f20
  have o20 : h v20 = none := D_17 v20 f20
  have om20 : md ≠ v20 := fh_neF k_123 f20
  obtain ⟨h_124, eh_125⟩ : ∃ z : fh_H, z = va_up h_113 v20 (some (.inl (fh_cI E, 41, .inl (fun _ => 0)))) := ⟨_, rfl⟩
  have hP : fh_P E.1 vwCl A h_124 H := by rw [eh_125]; exact hP
  have k_126 : h_124 md = some (.inr (7, [.int 0, .int 0, .int 0, .int 0, .int 0, .int 0, .int 0, .int 0, .int 3, .ref v9, .int 0, .ref v11, .ref v12, .ref v13, .int 0, .int 0, .ref v16, .ref v17, .ref v18, .ref v19, .null, .int 0, .null, .null, .int 0, .int 0, .int 0, .int 0, .int 0])) := by rw [eh_125]; exact fh_up k_123 (fh_neF k_123 f20)
  have k_127 : h_124 v9 = some (.inl (fh_cI E, 256, .inl (fun _ => 0))) := by rw [eh_125]; exact fh_up k_115 (fh_neF k_115 f20)
  have k_128 : h_124 v11 = some (.inl (fh_cI E, 11, .inl (fun _ => 0))) := by rw [eh_125]; exact fh_up k_116 (fh_neF k_116 f20)
  have k_129 : h_124 v12 = some (.inl (fh_cI E, 11, .inl (fun _ => 0))) := by rw [eh_125]; exact fh_up k_117 (fh_neF k_117 f20)
  have k_130 : h_124 v13 = some (.inl (fh_cZ E, 11, .inl (fun _ => 0))) := by rw [eh_125]; exact fh_up k_118 (fh_neF k_118 f20)
  have k_131 : h_124 v16 = some (.inl (fh_cI E, 41, .inl (fun _ => 0))) := by rw [eh_125]; exact fh_up k_119 (fh_neF k_119 f20)
  have k_132 : h_124 v17 = some (.inl (fh_cI E, 41, .inl (fun _ => 0))) := by rw [eh_125]; exact fh_up k_120 (fh_neF k_120 f20)
  have k_133 : h_124 v18 = some (.inl (fh_cI E, 41, .inl (fun _ => 0))) := by rw [eh_125]; exact fh_up k_121 (fh_neF k_121 f20)
  have k_134 : h_124 v19 = some (.inl (fh_cI E, 41, .inl (fun _ => 0))) := by rw [eh_125]; exact fh_up k_122 (fh_neF k_122 f20)
  have k_135 : h_124 v20 = some (.inl (fh_cI E, 41, .inl (fun _ => 0))) := by rw [eh_125]; exact va_up_self _ _ _
  have F_18 : ∀ b e, h b = some e → b ≠ md → h_124 b = some e := fun b e hb n9 => by rw [eh_125, va_up_ne _ _ (fh_neF (F_17 b e hb n9) f20)]; exact F_17 b e hb n9
  have D_18 : ∀ b, h_124 b = none → h b = none := fun b hb => D_17 b (dm_up eh_125 b hb)
  refine fh_putF hx hb hG C_MD iG_MD hown hK hP hS k_126 20 (by decide) gm693 rfl hname rfl (v := .ref v20) rfl rfl (Nat.le_of_ble_eq_true rfl) d_MD_init_79 (fun H locs hP hS => ?_)
  obtain ⟨h_136, eh_137⟩ : ∃ z : fh_H, z = va_up h_124 md (some (.inr (7, [.int 0, .int 0, .int 0, .int 0, .int 0, .int 0, .int 0, .int 0, .int 3, .ref v9, .int 0, .ref v11, .ref v12, .ref v13, .int 0, .int 0, .ref v16, .ref v17, .ref v18, .ref v19, .ref v20, .int 0, .null, .null, .int 0, .int 0, .int 0, .int 0, .int 0]))) := ⟨_, rfl⟩
  have hP : fh_P E.1 vwCl A h_136 H := by rw [eh_137]; exact hP
  have k_138 : h_136 v9 = some (.inl (fh_cI E, 256, .inl (fun _ => 0))) := by rw [eh_137]; exact fh_up k_127 (fh_neA k_127 k_126)
  have k_139 : h_136 v11 = some (.inl (fh_cI E, 11, .inl (fun _ => 0))) := by rw [eh_137]; exact fh_up k_128 (fh_neA k_128 k_126)
  have k_140 : h_136 v12 = some (.inl (fh_cI E, 11, .inl (fun _ => 0))) := by rw [eh_137]; exact fh_up k_129 (fh_neA k_129 k_126)
  have k_141 : h_136 v13 = some (.inl (fh_cZ E, 11, .inl (fun _ => 0))) := by rw [eh_137]; exact fh_up k_130 (fh_neA k_130 k_126)
  have k_142 : h_136 v16 = some (.inl (fh_cI E, 41, .inl (fun _ => 0))) := by rw [eh_137]; exact fh_up k_131 (fh_neA k_131 k_126)
  have k_143 : h_136 v17 = some (.inl (fh_cI E, 41, .inl (fun _ => 0))) := by rw [eh_137]; exact fh_up k_132 (fh_neA k_132 k_126)
  have k_144 : h_136 v18 = some (.inl (fh_cI E, 41, .inl (fun _ => 0))) := by rw [eh_137]; exact fh_up k_133 (fh_neA k_133 k_126)
  have k_145 : h_136 v19 = some (.inl (fh_cI E, 41, .inl (fun _ => 0))) := by rw [eh_137]; exact fh_up k_134 (fh_neA k_134 k_126)
  have k_146 : h_136 v20 = some (.inl (fh_cI E, 41, .inl (fun _ => 0))) := by rw [eh_137]; exact fh_up k_135 (fh_neA k_135 k_126)
  have k_147 : h_136 md = some (.inr (7, [.int 0, .int 0, .int 0, .int 0, .int 0, .int 0, .int 0, .int 0, .int 3, .ref v9, .int 0, .ref v11, .ref v12, .ref v13, .int 0, .int 0, .ref v16, .ref v17, .ref v18, .ref v19, .ref v20, .int 0, .null, .null, .int 0, .int 0, .int 0, .int 0, .int 0])) := by rw [eh_137]; exact va_up_self _ _ _
  have F_19 : ∀ b e, h b = some e → b ≠ md → h_136 b = some e := fun b e hb n9 => by rw [eh_137, va_up_ne _ _ n9]; exact F_18 b e hb n9
  have D_19 : ∀ b, h_136 b = none → h b = none := fun b hb => D_18 b (dm_up eh_137 b hb)
  refine lv_aload_n hx hb d_MD_init_82 rfl (lv_at hl 0 rfl) ?_
  refine lv_bipush (v := 8) hx hb d_MD_init_83 (by decide) ?_
  refine fh_newa (atype := .int) (ty := .int) hx hb (hG (Cond.arrayClass FieldType.int) gm129) rfl hK hP hS hA 0 rfl (fun _ _ => ra_int) (a0 := (8, .inl (fun _ => 0))) (fun _ => rfl) (by decide) (N' := 8) (by decide) (by decide) (Nat.le_of_ble_eq_true rfl) (Nat.le_of_ble_eq_true rfl) d_MD_init_85 (fun v22 H f22 hP hS => ?_)
  have ne_9_22 : v9 ≠ v22 := fh_neF k_138 f22
  have ne_11_22 : v11 ≠ v22 := fh_neF k_139 f22
  have ne_12_22 : v12 ≠ v22 := fh_neF k_140 f22
  have ne_13_22 : v13 ≠ v22 := fh_neF k_141 f22
  have ne_16_22 : v16 ≠ v22 := fh_neF k_142 f22
  have ne_17_22 : v17 ≠ v22 := fh_neF k_143 f22
  have ne_18_22 : v18 ≠ v22 := fh_neF k_144 f22
  have ne_19_22 : v19 ≠ v22 := fh_neF k_145 f22
  have ne_20_22 : v20 ≠ v22 := fh_neF k_146 f22
  have o22 : h v22 = none := D_19 v22 f22
  have om22 : md ≠ v22 := fh_neF k_147 f22
  obtain ⟨h_148, eh_149⟩ : ∃ z : fh_H, z = va_up h_136 v22 (some (.inl (fh_cI E, 8, .inl (fun _ => 0)))) := ⟨_, rfl⟩
  have hP : fh_P E.1 vwCl A h_148 H := by rw [eh_149]; exact hP
  have k_150 : h_148 md = some (.inr (7, [.int 0, .int 0, .int 0, .int 0, .int 0, .int 0, .int 0, .int 0, .int 3, .ref v9, .int 0, .ref v11, .ref v12, .ref v13, .int 0, .int 0, .ref v16, .ref v17, .ref v18, .ref v19, .ref v20, .int 0, .null, .null, .int 0, .int 0, .int 0, .int 0, .int 0])) := by rw [eh_149]; exact fh_up k_147 (fh_neF k_147 f22)
  have k_151 : h_148 v9 = some (.inl (fh_cI E, 256, .inl (fun _ => 0))) := by rw [eh_149]; exact fh_up k_138 (fh_neF k_138 f22)
  have k_152 : h_148 v11 = some (.inl (fh_cI E, 11, .inl (fun _ => 0))) := by rw [eh_149]; exact fh_up k_139 (fh_neF k_139 f22)
  have k_153 : h_148 v12 = some (.inl (fh_cI E, 11, .inl (fun _ => 0))) := by rw [eh_149]; exact fh_up k_140 (fh_neF k_140 f22)
  have k_154 : h_148 v13 = some (.inl (fh_cZ E, 11, .inl (fun _ => 0))) := by rw [eh_149]; exact fh_up k_141 (fh_neF k_141 f22)
  have k_155 : h_148 v16 = some (.inl (fh_cI E, 41, .inl (fun _ => 0))) := by rw [eh_149]; exact fh_up k_142 (fh_neF k_142 f22)
  have k_156 : h_148 v17 = some (.inl (fh_cI E, 41, .inl (fun _ => 0))) := by rw [eh_149]; exact fh_up k_143 (fh_neF k_143 f22)
  have k_157 : h_148 v18 = some (.inl (fh_cI E, 41, .inl (fun _ => 0))) := by rw [eh_149]; exact fh_up k_144 (fh_neF k_144 f22)
  have k_158 : h_148 v19 = some (.inl (fh_cI E, 41, .inl (fun _ => 0))) := by rw [eh_149]; exact fh_up k_145 (fh_neF k_145 f22)
  have k_159 : h_148 v20 = some (.inl (fh_cI E, 41, .inl (fun _ => 0))) := by rw [eh_149]; exact fh_up k_146 (fh_neF k_146 f22)
  have k_160 : h_148 v22 = some (.inl (fh_cI E, 8, .inl (fun _ => 0))) := by rw [eh_149]; exact va_up_self _ _ _
  have F_20 : ∀ b e, h b = some e → b ≠ md → h_148 b = some e := fun b e hb n9 => by rw [eh_149, va_up_ne _ _ (fh_neF (F_19 b e hb n9) f22)]; exact F_19 b e hb n9
  have D_20 : ∀ b, h_148 b = none → h b = none := fun b hb => D_19 b (dm_up eh_149 b hb)
  refine fh_putF hx hb hG C_MD iG_MD hown hK hP hS k_150 22 (by decide) gm695 rfl hname rfl (v := .ref v22) rfl rfl (Nat.le_of_ble_eq_true rfl) d_MD_init_87 (fun H locs hP hS => ?_)
  obtain ⟨h_161, eh_162⟩ : ∃ z : fh_H, z = va_up h_148 md (some (.inr (7, [.int 0, .int 0, .int 0, .int 0, .int 0, .int 0, .int 0, .int 0, .int 3, .ref v9, .int 0, .ref v11, .ref v12, .ref v13, .int 0, .int 0, .ref v16, .ref v17, .ref v18, .ref v19, .ref v20, .int 0, .ref v22, .null, .int 0, .int 0, .int 0, .int 0, .int 0]))) := ⟨_, rfl⟩
  have hP : fh_P E.1 vwCl A h_161 H := by rw [eh_162]; exact hP
  have k_163 : h_161 v9 = some (.inl (fh_cI E, 256, .inl (fun _ => 0))) := by rw [eh_162]; exact fh_up k_151 (fh_neA k_151 k_150)
  have k_164 : h_161 v11 = some (.inl (fh_cI E, 11, .inl (fun _ => 0))) := by rw [eh_162]; exact fh_up k_152 (fh_neA k_152 k_150)
  have k_165 : h_161 v12 = some (.inl (fh_cI E, 11, .inl (fun _ => 0))) := by rw [eh_162]; exact fh_up k_153 (fh_neA k_153 k_150)
  have k_166 : h_161 v13 = some (.inl (fh_cZ E, 11, .inl (fun _ => 0))) := by rw [eh_162]; exact fh_up k_154 (fh_neA k_154 k_150)
  have k_167 : h_161 v16 = some (.inl (fh_cI E, 41, .inl (fun _ => 0))) := by rw [eh_162]; exact fh_up k_155 (fh_neA k_155 k_150)
  have k_168 : h_161 v17 = some (.inl (fh_cI E, 41, .inl (fun _ => 0))) := by rw [eh_162]; exact fh_up k_156 (fh_neA k_156 k_150)
  have k_169 : h_161 v18 = some (.inl (fh_cI E, 41, .inl (fun _ => 0))) := by rw [eh_162]; exact fh_up k_157 (fh_neA k_157 k_150)
  have k_170 : h_161 v19 = some (.inl (fh_cI E, 41, .inl (fun _ => 0))) := by rw [eh_162]; exact fh_up k_158 (fh_neA k_158 k_150)
  have k_171 : h_161 v20 = some (.inl (fh_cI E, 41, .inl (fun _ => 0))) := by rw [eh_162]; exact fh_up k_159 (fh_neA k_159 k_150)
  have k_172 : h_161 v22 = some (.inl (fh_cI E, 8, .inl (fun _ => 0))) := by rw [eh_162]; exact fh_up k_160 (fh_neA k_160 k_150)
  have k_173 : h_161 md = some (.inr (7, [.int 0, .int 0, .int 0, .int 0, .int 0, .int 0, .int 0, .int 0, .int 3, .ref v9, .int 0, .ref v11, .ref v12, .ref v13, .int 0, .int 0, .ref v16, .ref v17, .ref v18, .ref v19, .ref v20, .int 0, .ref v22, .null, .int 0, .int 0, .int 0, .int 0, .int 0])) := by rw [eh_162]; exact va_up_self _ _ _
  have F_21 : ∀ b e, h b = some e → b ≠ md → h_161 b = some e := fun b e hb n9 => by rw [eh_162, va_up_ne _ _ n9]; exact F_20 b e hb n9
  have D_21 : ∀ b, h_161 b = none → h b = none := fun b hb => D_20 b (dm_up eh_162 b hb)
  refine lv_aload_n hx hb d_MD_init_90 rfl (lv_at hl 0 rfl) ?_
  refine lv_bipush (v := 8) hx hb d_MD_init_91 (by decide) ?_
  refine fh_newa (atype := .int) (ty := .int) hx hb (hG (Cond.arrayClass FieldType.int) gm129) rfl hK hP hS hA 0 rfl (fun _ _ => ra_int) (a0 := (8, .inl (fun _ => 0))) (fun _ => rfl) (by decide) (N' := 8) (by decide) (by decide) (Nat.le_of_ble_eq_true rfl) (Nat.le_of_ble_eq_true rfl) d_MD_init_93 (fun v23 H f23 hP hS => ?_)
  have ne_9_23 : v9 ≠ v23 := fh_neF k_163 f23
  have ne_11_23 : v11 ≠ v23 := fh_neF k_164 f23
  have ne_12_23 : v12 ≠ v23 := fh_neF k_165 f23
  have ne_13_23 : v13 ≠ v23 := fh_neF k_166 f23
  have ne_16_23 : v16 ≠ v23 := fh_neF k_167 f23
  have ne_17_23 : v17 ≠ v23 := fh_neF k_168 f23
  have ne_18_23 : v18 ≠ v23 := fh_neF k_169 f23
  have ne_19_23 : v19 ≠ v23 := fh_neF k_170 f23
  have ne_20_23 : v20 ≠ v23 := fh_neF k_171 f23
  have ne_22_23 : v22 ≠ v23 := fh_neF k_172 f23
  have o23 : h v23 = none := D_21 v23 f23
  have om23 : md ≠ v23 := fh_neF k_173 f23
  obtain ⟨h_174, eh_175⟩ : ∃ z : fh_H, z = va_up h_161 v23 (some (.inl (fh_cI E, 8, .inl (fun _ => 0)))) := ⟨_, rfl⟩
  have hP : fh_P E.1 vwCl A h_174 H := by rw [eh_175]; exact hP
  have k_176 : h_174 md = some (.inr (7, [.int 0, .int 0, .int 0, .int 0, .int 0, .int 0, .int 0, .int 0, .int 3, .ref v9, .int 0, .ref v11, .ref v12, .ref v13, .int 0, .int 0, .ref v16, .ref v17, .ref v18, .ref v19, .ref v20, .int 0, .ref v22, .null, .int 0, .int 0, .int 0, .int 0, .int 0])) := by rw [eh_175]; exact fh_up k_173 (fh_neF k_173 f23)
  have k_177 : h_174 v9 = some (.inl (fh_cI E, 256, .inl (fun _ => 0))) := by rw [eh_175]; exact fh_up k_163 (fh_neF k_163 f23)
  have k_178 : h_174 v11 = some (.inl (fh_cI E, 11, .inl (fun _ => 0))) := by rw [eh_175]; exact fh_up k_164 (fh_neF k_164 f23)
  have k_179 : h_174 v12 = some (.inl (fh_cI E, 11, .inl (fun _ => 0))) := by rw [eh_175]; exact fh_up k_165 (fh_neF k_165 f23)
  have k_180 : h_174 v13 = some (.inl (fh_cZ E, 11, .inl (fun _ => 0))) := by rw [eh_175]; exact fh_up k_166 (fh_neF k_166 f23)
  have k_181 : h_174 v16 = some (.inl (fh_cI E, 41, .inl (fun _ => 0))) := by rw [eh_175]; exact fh_up k_167 (fh_neF k_167 f23)
  have k_182 : h_174 v17 = some (.inl (fh_cI E, 41, .inl (fun _ => 0))) := by rw [eh_175]; exact fh_up k_168 (fh_neF k_168 f23)
  have k_183 : h_174 v18 = some (.inl (fh_cI E, 41, .inl (fun _ => 0))) := by rw [eh_175]; exact fh_up k_169 (fh_neF k_169 f23)
  have k_184 : h_174 v19 = some (.inl (fh_cI E, 41, .inl (fun _ => 0))) := by rw [eh_175]; exact fh_up k_170 (fh_neF k_170 f23)
  have k_185 : h_174 v20 = some (.inl (fh_cI E, 41, .inl (fun _ => 0))) := by rw [eh_175]; exact fh_up k_171 (fh_neF k_171 f23)
  have k_186 : h_174 v22 = some (.inl (fh_cI E, 8, .inl (fun _ => 0))) := by rw [eh_175]; exact fh_up k_172 (fh_neF k_172 f23)
  have k_187 : h_174 v23 = some (.inl (fh_cI E, 8, .inl (fun _ => 0))) := by rw [eh_175]; exact va_up_self _ _ _
  have F_22 : ∀ b e, h b = some e → b ≠ md → h_174 b = some e := fun b e hb n9 => by rw [eh_175, va_up_ne _ _ (fh_neF (F_21 b e hb n9) f23)]; exact F_21 b e hb n9
  have D_22 : ∀ b, h_174 b = none → h b = none := fun b hb => D_21 b (dm_up eh_175 b hb)
  refine fh_putF hx hb hG C_MD iG_MD hown hK hP hS k_176 23 (by decide) gm696 rfl hname rfl (v := .ref v23) rfl rfl (Nat.le_of_ble_eq_true rfl) d_MD_init_95 (fun H locs hP hS => ?_)
  obtain ⟨h_188, eh_189⟩ : ∃ z : fh_H, z = va_up h_174 md (some (.inr (7, [.int 0, .int 0, .int 0, .int 0, .int 0, .int 0, .int 0, .int 0, .int 3, .ref v9, .int 0, .ref v11, .ref v12, .ref v13, .int 0, .int 0, .ref v16, .ref v17, .ref v18, .ref v19, .ref v20, .int 0, .ref v22, .ref v23, .int 0, .int 0, .int 0, .int 0, .int 0]))) := ⟨_, rfl⟩
  have hP : fh_P E.1 vwCl A h_188 H := by rw [eh_189]; exact hP
  have k_190 : h_188 v9 = some (.inl (fh_cI E, 256, .inl (fun _ => 0))) := by rw [eh_189]; exact fh_up k_177 (fh_neA k_177 k_176)
  have k_191 : h_188 v11 = some (.inl (fh_cI E, 11, .inl (fun _ => 0))) := by rw [eh_189]; exact fh_up k_178 (fh_neA k_178 k_176)
  have k_192 : h_188 v12 = some (.inl (fh_cI E, 11, .inl (fun _ => 0))) := by rw [eh_189]; exact fh_up k_179 (fh_neA k_179 k_176)
  have k_193 : h_188 v13 = some (.inl (fh_cZ E, 11, .inl (fun _ => 0))) := by rw [eh_189]; exact fh_up k_180 (fh_neA k_180 k_176)
  have k_194 : h_188 v16 = some (.inl (fh_cI E, 41, .inl (fun _ => 0))) := by rw [eh_189]; exact fh_up k_181 (fh_neA k_181 k_176)
  have k_195 : h_188 v17 = some (.inl (fh_cI E, 41, .inl (fun _ => 0))) := by rw [eh_189]; exact fh_up k_182 (fh_neA k_182 k_176)
  have k_196 : h_188 v18 = some (.inl (fh_cI E, 41, .inl (fun _ => 0))) := by rw [eh_189]; exact fh_up k_183 (fh_neA k_183 k_176)
  have k_197 : h_188 v19 = some (.inl (fh_cI E, 41, .inl (fun _ => 0))) := by rw [eh_189]; exact fh_up k_184 (fh_neA k_184 k_176)
  have k_198 : h_188 v20 = some (.inl (fh_cI E, 41, .inl (fun _ => 0))) := by rw [eh_189]; exact fh_up k_185 (fh_neA k_185 k_176)
  have k_199 : h_188 v22 = some (.inl (fh_cI E, 8, .inl (fun _ => 0))) := by rw [eh_189]; exact fh_up k_186 (fh_neA k_186 k_176)
  have k_200 : h_188 v23 = some (.inl (fh_cI E, 8, .inl (fun _ => 0))) := by rw [eh_189]; exact fh_up k_187 (fh_neA k_187 k_176)
  have k_201 : h_188 md = some (.inr (7, [.int 0, .int 0, .int 0, .int 0, .int 0, .int 0, .int 0, .int 0, .int 3, .ref v9, .int 0, .ref v11, .ref v12, .ref v13, .int 0, .int 0, .ref v16, .ref v17, .ref v18, .ref v19, .ref v20, .int 0, .ref v22, .ref v23, .int 0, .int 0, .int 0, .int 0, .int 0])) := by rw [eh_189]; exact va_up_self _ _ _
  have F_23 : ∀ b e, h b = some e → b ≠ md → h_188 b = some e := fun b e hb n9 => by rw [eh_189, va_up_ne _ _ n9]; exact F_22 b e hb n9
  have D_23 : ∀ b, h_188 b = none → h b = none := fun b hb => D_22 b (dm_up eh_189 b hb)
  refine lv_aload_n hx hb d_MD_init_98 rfl (lv_at hl 0 rfl) ?_
  refine lv_iconst (v := 1) hx hb d_MD_init_99 (by decide) ?_
  refine fh_put hx hb hG C_MD iG_MD hown hK hP hS k_201 25 (by decide) gm698 rfl (v := .int 1) rfl rfl (Nat.le_of_ble_eq_true rfl) d_MD_init_100 (fun H locs hP hS => ?_)
  obtain ⟨h_202, eh_203⟩ : ∃ z : fh_H, z = va_up h_188 md (some (.inr (7, [.int 0, .int 0, .int 0, .int 0, .int 0, .int 0, .int 0, .int 0, .int 3, .ref v9, .int 0, .ref v11, .ref v12, .ref v13, .int 0, .int 0, .ref v16, .ref v17, .ref v18, .ref v19, .ref v20, .int 0, .ref v22, .ref v23, .int 0, .int 1, .int 0, .int 0, .int 0]))) := ⟨_, rfl⟩
  have hP : fh_P E.1 vwCl A h_202 H := by rw [eh_203]; exact hP
  have k_204 : h_202 v9 = some (.inl (fh_cI E, 256, .inl (fun _ => 0))) := by rw [eh_203]; exact fh_up k_190 (fh_neA k_190 k_201)
  have k_205 : h_202 v11 = some (.inl (fh_cI E, 11, .inl (fun _ => 0))) := by rw [eh_203]; exact fh_up k_191 (fh_neA k_191 k_201)
  have k_206 : h_202 v12 = some (.inl (fh_cI E, 11, .inl (fun _ => 0))) := by rw [eh_203]; exact fh_up k_192 (fh_neA k_192 k_201)
  have k_207 : h_202 v13 = some (.inl (fh_cZ E, 11, .inl (fun _ => 0))) := by rw [eh_203]; exact fh_up k_193 (fh_neA k_193 k_201)
  have k_208 : h_202 v16 = some (.inl (fh_cI E, 41, .inl (fun _ => 0))) := by rw [eh_203]; exact fh_up k_194 (fh_neA k_194 k_201)
  have k_209 : h_202 v17 = some (.inl (fh_cI E, 41, .inl (fun _ => 0))) := by rw [eh_203]; exact fh_up k_195 (fh_neA k_195 k_201)
  have k_210 : h_202 v18 = some (.inl (fh_cI E, 41, .inl (fun _ => 0))) := by rw [eh_203]; exact fh_up k_196 (fh_neA k_196 k_201)
  have k_211 : h_202 v19 = some (.inl (fh_cI E, 41, .inl (fun _ => 0))) := by rw [eh_203]; exact fh_up k_197 (fh_neA k_197 k_201)
  have k_212 : h_202 v20 = some (.inl (fh_cI E, 41, .inl (fun _ => 0))) := by rw [eh_203]; exact fh_up k_198 (fh_neA k_198 k_201)
  have k_213 : h_202 v22 = some (.inl (fh_cI E, 8, .inl (fun _ => 0))) := by rw [eh_203]; exact fh_up k_199 (fh_neA k_199 k_201)
  have k_214 : h_202 v23 = some (.inl (fh_cI E, 8, .inl (fun _ => 0))) := by rw [eh_203]; exact fh_up k_200 (fh_neA k_200 k_201)
  have k_215 : h_202 md = some (.inr (7, [.int 0, .int 0, .int 0, .int 0, .int 0, .int 0, .int 0, .int 0, .int 3, .ref v9, .int 0, .ref v11, .ref v12, .ref v13, .int 0, .int 0, .ref v16, .ref v17, .ref v18, .ref v19, .ref v20, .int 0, .ref v22, .ref v23, .int 0, .int 1, .int 0, .int 0, .int 0])) := by rw [eh_203]; exact va_up_self _ _ _
  have F_24 : ∀ b e, h b = some e → b ≠ md → h_202 b = some e := fun b e hb n9 => by rw [eh_203, va_up_ne _ _ n9]; exact F_23 b e hb n9
  obtain ⟨ad, ead⟩ : ∃ z : Nat → Nat, z = fun k => if k = 9 then v9 else if k = 11 then v11 else if k = 12 then v12 else if k = 13 then v13 else if k = 16 then v16 else if k = 17 then v17 else if k = 18 then v18 else if k = 19 then v19 else if k = 20 then v20 else if k = 22 then v22 else v23 := ⟨_, rfl⟩
  have q9 : ad 9 = v9 := by rw [ead]; rfl
  have q11 : ad 11 = v11 := by rw [ead]; rfl
  have q12 : ad 12 = v12 := by rw [ead]; rfl
  have q13 : ad 13 = v13 := by rw [ead]; rfl
  have q16 : ad 16 = v16 := by rw [ead]; rfl
  have q17 : ad 17 = v17 := by rw [ead]; rfl
  have q18 : ad 18 = v18 := by rw [ead]; rfl
  have q19 : ad 19 = v19 := by rw [ead]; rfl
  have q20 : ad 20 = v20 := by rw [ead]; rfl
  have q22 : ad 22 = v22 := by rw [ead]; rfl
  have q23 : ad 23 = v23 := by rw [ead]; rfl
  obtain ⟨sc, esc⟩ : ∃ z : Nat → Int32, z = fun k => if k = 8 then 3 else if k = 25 then 1 else 0 := ⟨_, rfl⟩
  have hM : MDs E h_202 md ad sc (fun _ _ => 0) := by
    refine ⟨by rw [ead, esc]; exact k_215, fun k hk => ?_, fun i j hi hj e => ?_⟩
    · rcases isA_c hk with rfl | rfl | rfl | rfl | rfl | rfl | rfl | rfl | rfl | rfl | rfl
      · rw [q9]; exact k_204
      · rw [q11]; exact k_205
      · rw [q12]; exact k_206
      · rw [q13]; exact k_207
      · rw [q16]; exact k_208
      · rw [q17]; exact k_209
      · rw [q18]; exact k_210
      · rw [q19]; exact k_211
      · rw [q20]; exact k_212
      · rw [q22]; exact k_213
      · rw [q23]; exact k_214
    · rcases isA_c hi with rfl | rfl | rfl | rfl | rfl | rfl | rfl | rfl | rfl | rfl | rfl
      · rcases isA_c hj with rfl | rfl | rfl | rfl | rfl | rfl | rfl | rfl | rfl | rfl | rfl
        · rfl
        · rw [q9, q11] at e; exact absurd e ne_9_11
        · rw [q9, q12] at e; exact absurd e ne_9_12
        · rw [q9, q13] at e; exact absurd e ne_9_13
        · rw [q9, q16] at e; exact absurd e ne_9_16
        · rw [q9, q17] at e; exact absurd e ne_9_17
        · rw [q9, q18] at e; exact absurd e ne_9_18
        · rw [q9, q19] at e; exact absurd e ne_9_19
        · rw [q9, q20] at e; exact absurd e ne_9_20
        · rw [q9, q22] at e; exact absurd e ne_9_22
        · rw [q9, q23] at e; exact absurd e ne_9_23
      · rcases isA_c hj with rfl | rfl | rfl | rfl | rfl | rfl | rfl | rfl | rfl | rfl | rfl
        · rw [q11, q9] at e; exact absurd e (Ne.symm ne_9_11)
        · rfl
        · rw [q11, q12] at e; exact absurd e ne_11_12
        · rw [q11, q13] at e; exact absurd e ne_11_13
        · rw [q11, q16] at e; exact absurd e ne_11_16
        · rw [q11, q17] at e; exact absurd e ne_11_17
        · rw [q11, q18] at e; exact absurd e ne_11_18
        · rw [q11, q19] at e; exact absurd e ne_11_19
        · rw [q11, q20] at e; exact absurd e ne_11_20
        · rw [q11, q22] at e; exact absurd e ne_11_22
        · rw [q11, q23] at e; exact absurd e ne_11_23
      · rcases isA_c hj with rfl | rfl | rfl | rfl | rfl | rfl | rfl | rfl | rfl | rfl | rfl
        · rw [q12, q9] at e; exact absurd e (Ne.symm ne_9_12)
        · rw [q12, q11] at e; exact absurd e (Ne.symm ne_11_12)
        · rfl
        · rw [q12, q13] at e; exact absurd e ne_12_13
        · rw [q12, q16] at e; exact absurd e ne_12_16
        · rw [q12, q17] at e; exact absurd e ne_12_17
        · rw [q12, q18] at e; exact absurd e ne_12_18
        · rw [q12, q19] at e; exact absurd e ne_12_19
        · rw [q12, q20] at e; exact absurd e ne_12_20
        · rw [q12, q22] at e; exact absurd e ne_12_22
        · rw [q12, q23] at e; exact absurd e ne_12_23
      · rcases isA_c hj with rfl | rfl | rfl | rfl | rfl | rfl | rfl | rfl | rfl | rfl | rfl
        · rw [q13, q9] at e; exact absurd e (Ne.symm ne_9_13)
        · rw [q13, q11] at e; exact absurd e (Ne.symm ne_11_13)
        · rw [q13, q12] at e; exact absurd e (Ne.symm ne_12_13)
        · rfl
        · rw [q13, q16] at e; exact absurd e ne_13_16
        · rw [q13, q17] at e; exact absurd e ne_13_17
        · rw [q13, q18] at e; exact absurd e ne_13_18
        · rw [q13, q19] at e; exact absurd e ne_13_19
        · rw [q13, q20] at e; exact absurd e ne_13_20
        · rw [q13, q22] at e; exact absurd e ne_13_22
        · rw [q13, q23] at e; exact absurd e ne_13_23
      · rcases isA_c hj with rfl | rfl | rfl | rfl | rfl | rfl | rfl | rfl | rfl | rfl | rfl
        · rw [q16, q9] at e; exact absurd e (Ne.symm ne_9_16)
        · rw [q16, q11] at e; exact absurd e (Ne.symm ne_11_16)
        · rw [q16, q12] at e; exact absurd e (Ne.symm ne_12_16)
        · rw [q16, q13] at e; exact absurd e (Ne.symm ne_13_16)
        · rfl
        · rw [q16, q17] at e; exact absurd e ne_16_17
        · rw [q16, q18] at e; exact absurd e ne_16_18
        · rw [q16, q19] at e; exact absurd e ne_16_19
        · rw [q16, q20] at e; exact absurd e ne_16_20
        · rw [q16, q22] at e; exact absurd e ne_16_22
        · rw [q16, q23] at e; exact absurd e ne_16_23
      · rcases isA_c hj with rfl | rfl | rfl | rfl | rfl | rfl | rfl | rfl | rfl | rfl | rfl
        · rw [q17, q9] at e; exact absurd e (Ne.symm ne_9_17)
        · rw [q17, q11] at e; exact absurd e (Ne.symm ne_11_17)
        · rw [q17, q12] at e; exact absurd e (Ne.symm ne_12_17)
        · rw [q17, q13] at e; exact absurd e (Ne.symm ne_13_17)
        · rw [q17, q16] at e; exact absurd e (Ne.symm ne_16_17)
        · rfl
        · rw [q17, q18] at e; exact absurd e ne_17_18
        · rw [q17, q19] at e; exact absurd e ne_17_19
        · rw [q17, q20] at e; exact absurd e ne_17_20
        · rw [q17, q22] at e; exact absurd e ne_17_22
        · rw [q17, q23] at e; exact absurd e ne_17_23
      · rcases isA_c hj with rfl | rfl | rfl | rfl | rfl | rfl | rfl | rfl | rfl | rfl | rfl
        · rw [q18, q9] at e; exact absurd e (Ne.symm ne_9_18)
        · rw [q18, q11] at e; exact absurd e (Ne.symm ne_11_18)
        · rw [q18, q12] at e; exact absurd e (Ne.symm ne_12_18)
        · rw [q18, q13] at e; exact absurd e (Ne.symm ne_13_18)
        · rw [q18, q16] at e; exact absurd e (Ne.symm ne_16_18)
        · rw [q18, q17] at e; exact absurd e (Ne.symm ne_17_18)
        · rfl
        · rw [q18, q19] at e; exact absurd e ne_18_19
        · rw [q18, q20] at e; exact absurd e ne_18_20
        · rw [q18, q22] at e; exact absurd e ne_18_22
        · rw [q18, q23] at e; exact absurd e ne_18_23
      · rcases isA_c hj with rfl | rfl | rfl | rfl | rfl | rfl | rfl | rfl | rfl | rfl | rfl
        · rw [q19, q9] at e; exact absurd e (Ne.symm ne_9_19)
        · rw [q19, q11] at e; exact absurd e (Ne.symm ne_11_19)
        · rw [q19, q12] at e; exact absurd e (Ne.symm ne_12_19)
        · rw [q19, q13] at e; exact absurd e (Ne.symm ne_13_19)
        · rw [q19, q16] at e; exact absurd e (Ne.symm ne_16_19)
        · rw [q19, q17] at e; exact absurd e (Ne.symm ne_17_19)
        · rw [q19, q18] at e; exact absurd e (Ne.symm ne_18_19)
        · rfl
        · rw [q19, q20] at e; exact absurd e ne_19_20
        · rw [q19, q22] at e; exact absurd e ne_19_22
        · rw [q19, q23] at e; exact absurd e ne_19_23
      · rcases isA_c hj with rfl | rfl | rfl | rfl | rfl | rfl | rfl | rfl | rfl | rfl | rfl
        · rw [q20, q9] at e; exact absurd e (Ne.symm ne_9_20)
        · rw [q20, q11] at e; exact absurd e (Ne.symm ne_11_20)
        · rw [q20, q12] at e; exact absurd e (Ne.symm ne_12_20)
        · rw [q20, q13] at e; exact absurd e (Ne.symm ne_13_20)
        · rw [q20, q16] at e; exact absurd e (Ne.symm ne_16_20)
        · rw [q20, q17] at e; exact absurd e (Ne.symm ne_17_20)
        · rw [q20, q18] at e; exact absurd e (Ne.symm ne_18_20)
        · rw [q20, q19] at e; exact absurd e (Ne.symm ne_19_20)
        · rfl
        · rw [q20, q22] at e; exact absurd e ne_20_22
        · rw [q20, q23] at e; exact absurd e ne_20_23
      · rcases isA_c hj with rfl | rfl | rfl | rfl | rfl | rfl | rfl | rfl | rfl | rfl | rfl
        · rw [q22, q9] at e; exact absurd e (Ne.symm ne_9_22)
        · rw [q22, q11] at e; exact absurd e (Ne.symm ne_11_22)
        · rw [q22, q12] at e; exact absurd e (Ne.symm ne_12_22)
        · rw [q22, q13] at e; exact absurd e (Ne.symm ne_13_22)
        · rw [q22, q16] at e; exact absurd e (Ne.symm ne_16_22)
        · rw [q22, q17] at e; exact absurd e (Ne.symm ne_17_22)
        · rw [q22, q18] at e; exact absurd e (Ne.symm ne_18_22)
        · rw [q22, q19] at e; exact absurd e (Ne.symm ne_19_22)
        · rw [q22, q20] at e; exact absurd e (Ne.symm ne_20_22)
        · rfl
        · rw [q22, q23] at e; exact absurd e ne_22_23
      · rcases isA_c hj with rfl | rfl | rfl | rfl | rfl | rfl | rfl | rfl | rfl | rfl | rfl
        · rw [q23, q9] at e; exact absurd e (Ne.symm ne_9_23)
        · rw [q23, q11] at e; exact absurd e (Ne.symm ne_11_23)
        · rw [q23, q12] at e; exact absurd e (Ne.symm ne_12_23)
        · rw [q23, q13] at e; exact absurd e (Ne.symm ne_13_23)
        · rw [q23, q16] at e; exact absurd e (Ne.symm ne_16_23)
        · rw [q23, q17] at e; exact absurd e (Ne.symm ne_17_23)
        · rw [q23, q18] at e; exact absurd e (Ne.symm ne_18_23)
        · rw [q23, q19] at e; exact absurd e (Ne.symm ne_19_23)
        · rw [q23, q20] at e; exact absurd e (Ne.symm ne_20_23)
        · rw [q23, q22] at e; exact absurd e (Ne.symm ne_22_23)
        · rfl
  have hO : ∀ k, isA k = true → h (ad k) = none := fun k hk => by
    rcases isA_c hk with rfl | rfl | rfl | rfl | rfl | rfl | rfl | rfl | rfl | rfl | rfl
    · rw [q9]; exact o9
    · rw [q11]; exact o11
    · rw [q12]; exact o12
    · rw [q13]; exact o13
    · rw [q16]; exact o16
    · rw [q17]; exact o17
    · rw [q18]; exact o18
    · rw [q19]; exact o19
    · rw [q20]; exact o20
    · rw [q22]; exact o22
    · rw [q23]; exact o23
  exact fh_vret hx hb hr hlocks (Nat.le_of_ble_eq_true rfl) (Nat.le_of_ble_eq_true rfl) hP hS ⟨rfl, ad, sc, fun _ _ => 0, hM, RM.s0 (fun k h8 h25 => by rw [esc]; show (if k = 8 then (3 : Int32) else if k = 25 then 1 else 0) = 0; rw [if_neg h8, if_neg h25]) (by rw [esc]; rfl) (by rw [esc]; rfl) (fun _ => rfl), hO, F_24⟩ d_MD_init_103

