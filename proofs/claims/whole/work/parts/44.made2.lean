/-! THE LAYER IS MADE, whole. -/
def S0 : mS := mkS [] (fun _ => 0) [] none 0 0 0 1 3 0 0 [] 0 0 0 0 0
theorem Inv.s0 : Inv S0 0 := ⟨by decide, by decide, by decide, fun r h => (by cases h), fun r h => (by cases h), fun r h => (by cases h), fun r h => (by cases h), List.nodup_nil, List.nodup_nil, ⟨0, by decide, rfl⟩, Or.inr rfl, ⟨3, by decide, rfl⟩, 0, Nat.le_refl _, rfl⟩
theorem NB.s0 : NB S0 0 := ⟨rfl, fun r h => (by cases h), fun r h => (by cases h)⟩
set_option maxHeartbeats 800000 in
set_option maxRecDepth 100000 in
theorem c_BL_init (l : Launch) (E : fh_E) (h : fh_H) (bl : Nat) (hb0 : h bl = some (.inr (6, [.null, .null, .int 0, .int 0, .int 0, .int 0, .int 0]))) : fh_Met l y_BL_init w_BL_init ({ frames := 6, cells := 8, slots := 279, locals := 112 }) E [.ref bl] h (fun r h1 => r = none ∧ ∃ med, ALy E h1 bl med S0 ∧ h med = none ∧ KB h h1 med) 8 279 := by
  refine fh_ofW (cc := b_BL_init) (maxL := 1) (ret := none) (by decide) rfl (Nat.le_of_ble_eq_true rfl) ?_
  intro p e s m below meth c A ls hx hb hr hml hown hts hlocks hname hnoh hadm hA hK hZ hP hS hl
  have hG : ∀ w ∈ G, w.before _ s = true := fun w hw => hts w (List.mem_cons_of_mem _ hw)
  have hown : s.vm.findClass R_BL = some m.cls := hown
  have hl : lv_has ls 1 [(0, .ref bl)] := hl
  have hed := hZ.edn hP
  refine lv_aload_n hx hb d_BL_init_0 rfl (lv_at hl 0 rfl) ?_
  refine W.objInit hx hb hown (hG _ gm28) (hG _ gm29) (hG _ gm30) rfl (by rw [hml]; exact hl.1) rfl d_BL_init_1 (Nat.le_of_ble_eq_true rfl) (Nat.le_of_ble_eq_true rfl) ?_
  refine W.eq (g2 := F0 m 4 ls []) rfl ?_
  refine lv_aload_n hx hb d_BL_init_4 rfl (lv_at hl 0 rfl) ?_
  refine fh_new hx hb hG C_CS iG_CS hown gm31 gm32 gm2 hK hP hS hA (fs := [.null]) (fun j hj => by rcases (show j = 0 by omega) with rfl <;> rfl) (Nat.le_of_ble_eq_true rfl) (Nat.le_of_ble_eq_true rfl) d_BL_init_5 (fun bcs H hf_1 hP hS => ?_)
  obtain ⟨h_2, eh_3⟩ : ∃ z : fh_H, z = va_up h bcs (some (.inr (2, [.null]))) := ⟨_, rfl⟩
  have hP : fh_P E.1 vwCl A h_2 H := by rw [eh_3]; exact hP
  have k_4 : h_2 bl = some (.inr (6, [.null, .null, .int 0, .int 0, .int 0, .int 0, .int 0])) := by rw [eh_3]; exact fh_up hb0 (fh_neF hb0 hf_1)
  have k_5 : h_2 bcs = some (.inr (2, [.null])) := by rw [eh_3]; exact va_up_self _ _ _
  refine lv_dup hx hb d_BL_init_8 rfl ?_
  refine fh_callIN (b := bcs) (y := y_CS_init) (bytes := b_CS_init) (maxL := 1) (index := 9) (host := "BlockLayer") (As := []) (rest := [.ref bcs, .ref bl]) ⟨hx, hb, hml, hown, hG⟩ (c_CS_init l E h_2 bcs _ k_5) ⟨va_cnB 0 hG (gB gm35) rfl rfl rfl (fhN hZ (.methodLinkNest "BlockLayer" 9 y_CS_init "BlockLayer") (by simp [fhNest])) (hG _ gm2) hdy_CS_init ⟨Nat.le_of_ble_eq_true rfl, Nat.le_of_ble_eq_true rfl⟩, rfl, hG _ gm34⟩ hK hZ hP hS hA rfl hl.1 rfl (Nat.le_of_ble_eq_true rfl) d_BL_init_9 ⟨Nat.le_of_ble_eq_true rfl, Nat.le_of_ble_eq_true rfl⟩ (fun r h1 H locs hq9 hP hS => ?_)
  obtain ⟨rfl, bal, g1, g2, g3⟩ := hq9
  have f2 : h bal = none := dm_up eh_3 bal g2
  have M1 : ∀ b e, h b = some e → h1 b = some e := fun b e hb => by rw [g3 b (fh_neF hb hf_1) (fh_neF hb f2), eh_3]; exact fh_up hb (fh_neF hb hf_1)
  have kb1 := M1 _ _ hb0
  obtain ⟨mdb, kal1⟩ := g1.2.1.al
  refine W.eq (g2 := F0 m 12 ls [.ref bcs, .ref bl]) rfl ?_
  refine fh_putF hx hb hG C_BL iG_BL hown hK hP hS kb1 0 (by decide) gm130 rfl hname rfl (v := .ref bcs) rfl rfl (Nat.le_of_ble_eq_true rfl) d_BL_init_12 (fun H locs hP hS => ?_)
  obtain ⟨h_6, eh_7⟩ : ∃ z : fh_H, z = va_up h1 bl (some (.inr (6, [.ref bcs, .null, .int 0, .int 0, .int 0, .int 0, .int 0]))) := ⟨_, rfl⟩
  have hP : fh_P E.1 vwCl A h_6 H := by rw [eh_7]; exact hP
  have k_8 : h_6 bl = some (.inr (6, [.ref bcs, .null, .int 0, .int 0, .int 0, .int 0, .int 0])) := by rw [eh_7]; exact va_up_self _ _ _
  refine lv_aload_n hx hb d_BL_init_15 rfl (lv_at hl 0 rfl) ?_
  refine fh_new hx hb hG C_DK iG_DK hown gm67 gm68 gm6 hK hP hS hA (fs := [.null, .null, .null, .null, .int 0, .int 0, .int 0, .int 0, .int 0, .int 0, .int 0]) (fun j hj => by rcases (show j = 0 ∨ j = 1 ∨ j = 2 ∨ j = 3 ∨ j = 4 ∨ j = 5 ∨ j = 6 ∨ j = 7 ∨ j = 8 ∨ j = 9 ∨ j = 10 by omega) with rfl | rfl | rfl | rfl | rfl | rfl | rfl | rfl | rfl | rfl | rfl <;> rfl) (Nat.le_of_ble_eq_true rfl) (Nat.le_of_ble_eq_true rfl) d_BL_init_16 (fun dk H hf_9 hP hS => ?_)
  obtain ⟨h_10, eh_11⟩ : ∃ z : fh_H, z = va_up h_6 dk (some (.inr (5, [.null, .null, .null, .null, .int 0, .int 0, .int 0, .int 0, .int 0, .int 0, .int 0]))) := ⟨_, rfl⟩
  have hP : fh_P E.1 vwCl A h_10 H := by rw [eh_11]; exact hP
  have k_12 : h_10 bl = some (.inr (6, [.ref bcs, .null, .int 0, .int 0, .int 0, .int 0, .int 0])) := by rw [eh_11]; exact fh_up k_8 (fh_neF k_8 hf_9)
  have k_13 : h_10 dk = some (.inr (5, [.null, .null, .null, .null, .int 0, .int 0, .int 0, .int 0, .int 0, .int 0, .int 0])) := by rw [eh_11]; exact va_up_self _ _ _
  refine lv_dup hx hb d_BL_init_19 rfl ?_
  refine fh_callIN (b := dk) (y := y_DK_init) (bytes := b_DK_init) (maxL := 1) (index := 18) (host := "BlockLayer") (As := []) (rest := [.ref dk, .ref bl]) ⟨hx, hb, hml, hown, hG⟩ (c_DK_init l E h_10 dk k_13) ⟨va_cnB 0 hG (gB gm71) rfl rfl rfl (fhN hZ (.methodLinkNest "BlockLayer" 18 y_DK_init "BlockLayer") (by simp [fhNest])) (hG _ gm6) hdy_DK_init ⟨Nat.le_of_ble_eq_true rfl, Nat.le_of_ble_eq_true rfl⟩, rfl, hG _ gm70⟩ hK hZ hP hS hA rfl hl.1 rfl (Nat.le_of_ble_eq_true rfl) d_BL_init_20 ⟨Nat.le_of_ble_eq_true rfl, Nat.le_of_ble_eq_true rfl⟩ (fun r h2 H locs hq9 hP hS => ?_)
  obtain ⟨rfl, qu, qal, med, cs, cal, j1, j2, j3, j4, j5, j6, j7⟩ := hq9
  have ed2 := hZ.edn hP
  have kb2 : h2 bl = some (.inr (6, [.ref bcs, .null, .int 0, .int 0, .int 0, .int 0, .int 0])) := j7 _ _ k_12 (fh_ne k_12 k_13 (by decide))
  refine W.eq (g2 := F0 m 23 ls [.ref dk, .ref bl]) rfl ?_
  refine fh_putF hx hb hG C_BL iG_BL hown hK hP hS kb2 1 (by decide) gm131 rfl hname rfl (v := .ref dk) rfl rfl (Nat.le_of_ble_eq_true rfl) d_BL_init_23 (fun H locs hP hS => ?_)
  obtain ⟨h_14, eh_15⟩ : ∃ z : fh_H, z = va_up h2 bl (some (.inr (6, [.ref bcs, .ref dk, .int 0, .int 0, .int 0, .int 0, .int 0]))) := ⟨_, rfl⟩
  have hP : fh_P E.1 vwCl A h_14 H := by rw [eh_15]; exact hP
  have k_16 : h_14 bl = some (.inr (6, [.ref bcs, .ref dk, .int 0, .int 0, .int 0, .int 0, .int 0])) := by rw [eh_15]; exact va_up_self _ _ _
  have ed3 := hZ.edn hP
  have MC : ∀ b e, h1 b = some e → b ≠ bl → h_10 b = some e := fun b e hb n => by
    have z1 : h_6 b = some e := by rw [eh_7, va_up_ne _ _ n]; exact hb
    rw [eh_11, va_up_ne _ _ (fh_neF z1 hf_9)]; exact z1
  have n1 : bcs ≠ bl := fh_ne g1.1 kb1 (by decide)
  have n2 : bal ≠ bl := fh_ne kal1 kb1 (by decide)
  have cbc := MC _ _ g1.1 n1
  have cal1 := MC _ _ kal1 n2
  have F9 : Fr h1 h_14 (fun b => b = bl ∨ b = dk) := fun b e hb n => by rw [eh_15, va_up_ne _ _ (fun z => n (Or.inl z))]; exact j7 _ _ (MC b e hb (fun z => n (Or.inl z))) (fun z => n (Or.inr z))
  have G9 : Fr h2 h_14 (fun b => b = bl) := fun b e hb n => by rw [eh_15, va_up_ne _ _ n]; exact hb
  have C9 : CLs E h_14 bcs bal (fh_ed E) [] := g1.keep F9 (fun z => z.elim n1 (fun z => fh_ne cbc k_13 (by decide) z)) (fun z => z.elim n2 (fun z => fh_ne cal1 k_13 (by decide) z)) (fun e he z => z.elim (fun z => absurd ed3 (by rw [z, eh_15, va_up_self]; exact fun w => by cases w)) (fun z => absurd (j1.1) (by rw [← z, ed2]; exact fun w => by cases w))) (fun r hr => by cases hr)
  have D9 := j1.keepO ed2 ed3 G9 kb2 (Or.inl rfl)
  have KA : KB h h_2 med := KB.fresh hf_1 eh_3
  have K1 : KB h_2 h1 med := fun b e hb n w => by
    by_cases z : b = bcs
    · rw [z, k_5] at hb; cases hb; cases w
    · rw [g3 b z (fh_neF hb g2)]; exact hb
  have KB2 : KB h1 h_6 med := KB.up kb1 (by decide) eh_7
  have KC : KB h_6 h_10 med := KB.fresh hf_9 eh_11
  have KD : KB h_10 h2 med := KB.of j7 (fun b e hb z => by rw [z, k_13] at hb; cases hb; exact Or.inr (by show ¬ (5 = 7); decide))
  have KF : KB h2 h_14 med := KB.up kb2 (by decide) eh_15
  have hmed : h med = none := by
    cases hz : h med with
    | none => rfl
    | some e =>
      have z1 := M1 med e hz
      by_cases n : med = bl
      · rw [n, k_12] at j4; cases j4
      · rw [MC med e z1 n] at j4; cases j4
  exact fh_vret hx hb hr hlocks (Nat.le_of_ble_eq_true rfl) (Nat.le_of_ble_eq_true rfl) hP hS ⟨rfl, med, ⟨dk, [], none, bcs, bal, fh_ed E, qu, qal, fh_ed E, cs, cal, fh_ed E, [], [], ⟨by rw [eh_15]; exact va_up_self _ _ _, C9, D9, fh_neF cbc j5, fh_neF cal1 j6, fh_neF cal1 j3, fun e he => absurd he (by rw [ed3]; exact fun z => by cases z), List.nodup_nil, fun b hb => by cases hb⟩, rfl, rfl, rfl, rfl⟩, hmed, ((((KA.trans K1).trans KB2).trans KC).trans KD).trans KF⟩ d_BL_init_26

