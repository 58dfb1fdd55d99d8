/-! THE LAW'S HELPERS: each calls the layer, and catches. -/
def bfV (S : mS) (b : Int32) : Int32 := match bfM S b with | some c => if c.2.2 = 0 then 1 else 2 | none => 0
def usV (S : mS) (i : Int32) : Int32 := match atI S.bs i with | some c => c.1 | none => -1
def quV (S : mS) (i : Int32) : Int32 := match atI S.q i with | some c => c.1 | none => -1
def rqV (S : mS) (n w : Int32) : Int32 := match lvM S n with | some r => rqM r w | none => -1
theorem gBW {y : MethodName} {b : ByteArray} {n : Nat} {r : Option FieldType} {hh : List (Nat × Nat × Nat × Nat)} (h : Cond.codeWith y b n r hh ∈ G) : GoodIn G (Cond.codeWith y b n r hh :: G) := goodIn_sub' (List.forall_mem_cons.mpr ⟨h, fun _ z => z⟩)
abbrev w_LW_load : List Cond := .codeWith y_LW_load b_LW_load 4 (some .int) [(0, 9, 12, 13), (0, 9, 15, 15)] :: G
theorem hdy_LW_load : y_LW_load.cls ≠ "java/lang/invoke/MethodHandle" ∧ y_LW_load.cls ≠ "java/lang/invoke/VarHandle" ∧ (parseMethodDescriptor y_LW_load.desc).map (fun d => d.parameters.length) = some 3 := by decide +kernel
abbrev w_LW_save : List Cond := .codeWith y_LW_save b_LW_save 5 (some .int) [(0, 10, 13, 13), (0, 10, 17, 15)] :: G
theorem hdy_LW_save : y_LW_save.cls ≠ "java/lang/invoke/MethodHandle" ∧ y_LW_save.cls ≠ "java/lang/invoke/VarHandle" ∧ (parseMethodDescriptor y_LW_save.desc).map (fun d => d.parameters.length) = some 4 := by decide +kernel
abbrev w_LW_sync : List Cond := .codeWith y_LW_sync b_LW_sync 3 (some .int) [(0, 8, 11, 15)] :: G
theorem hdy_LW_sync : y_LW_sync.cls ≠ "java/lang/invoke/MethodHandle" ∧ y_LW_sync.cls ≠ "java/lang/invoke/VarHandle" ∧ (parseMethodDescriptor y_LW_sync.desc).map (fun d => d.parameters.length) = some 2 := by decide +kernel
abbrev w_LW_step : List Cond := .codeWith y_LW_step b_LW_step 4 (some .int) [(0, 9, 12, 28)] :: G
theorem hdy_LW_step : y_LW_step.cls ≠ "java/lang/invoke/MethodHandle" ∧ y_LW_step.cls ≠ "java/lang/invoke/VarHandle" ∧ (parseMethodDescriptor y_LW_step.desc).map (fun d => d.parameters.length) = some 3 := by decide +kernel
abbrev w_LW_policy : List Cond := .codeWith y_LW_policy b_LW_policy 4 (some .int) [(0, 9, 12, 28)] :: G
theorem hdy_LW_policy : y_LW_policy.cls ≠ "java/lang/invoke/MethodHandle" ∧ y_LW_policy.cls ≠ "java/lang/invoke/VarHandle" ∧ (parseMethodDescriptor y_LW_policy.desc).map (fun d => d.parameters.length) = some 3 := by decide +kernel
abbrev w_LW_newest : List Cond := .codeWith y_LW_newest b_LW_newest 4 (some .int) [(0, 9, 12, 13)] :: G
theorem hdy_LW_newest : y_LW_newest.cls ≠ "java/lang/invoke/MethodHandle" ∧ y_LW_newest.cls ≠ "java/lang/invoke/VarHandle" ∧ (parseMethodDescriptor y_LW_newest.desc).map (fun d => d.parameters.length) = some 3 := by decide +kernel
abbrev w_LW_media : List Cond := .codeWith y_LW_media b_LW_media 4 (some .int) [(0, 9, 12, 13)] :: G
theorem hdy_LW_media : y_LW_media.cls ≠ "java/lang/invoke/MethodHandle" ∧ y_LW_media.cls ≠ "java/lang/invoke/VarHandle" ∧ (parseMethodDescriptor y_LW_media.desc).map (fun d => d.parameters.length) = some 3 := by decide +kernel
abbrev w_LW_buffer : List Cond := .codeWith y_LW_buffer b_LW_buffer 4 (some .int) [(0, 9, 12, 13)] :: G
theorem hdy_LW_buffer : y_LW_buffer.cls ≠ "java/lang/invoke/MethodHandle" ∧ y_LW_buffer.cls ≠ "java/lang/invoke/VarHandle" ∧ (parseMethodDescriptor y_LW_buffer.desc).map (fun d => d.parameters.length) = some 3 := by decide +kernel
set_option maxHeartbeats 800000 in
set_option maxRecDepth 100000 in
theorem c_LW_load (l : Launch) (E : fh_E) (h : fh_H) (bl med : Nat) (S : mS) (t : Nat) (hS0 : ALy E h bl med S) (hI : Inv S t) (out : Nat) (fo : Nat → Int64) (ho : h out = some (.inl (fh_cJ E, 1, .inr (.inl fo)))) (hom : out ≠ med) (n : Nat) (hn : n < 256) (hroom : S.q.length + 2 ≤ 40) (N : Nat) (hNB : NB S N) (hN : N < 1000000) : fh_Met l y_LW_load w_LW_load ({ frames := 12, cells := 90, slots := 3362, locals := 303 }) E [.ref bl, .int (nI n), .ref out] h (fun r h1 => r = some (.int 0) ∧ (∃ f2, h1 out = some (.inl (fh_cJ E, 1, .inr (.inl f2))) ∧ f2 0 = ((loadM S (nI n)).2).toInt64) ∧ ALy E h1 bl med ((loadM S (nI n)).1) ∧ ∀ b e, h b = some e → b ≠ med → b ≠ out → oth e → h1 b = some e) 90 3362 := by
  refine lw_ofW (cc := b_LW_load) (maxL := 4) (ret := (some .int)) (hh := [(0, 9, 12, 13), (0, 9, 15, 15)]) (by decide) rfl (Nat.le_of_ble_eq_true rfl) ?_
  intro p e s m below meth c A ls hx hb hr hml hown hts hlocks hname htab hadm hA hK hZ hP hS hl
  have hG : ∀ w ∈ G, w.before _ s = true := fun w hw => hts w (List.mem_cons_of_mem _ hw)
  have hown : s.vm.findClass R_LW = some m.cls := hown
  have hl : lv_has ls 4 [(0, .ref bl), (1, .int (nI n)), (2, .ref out)] := hl
  obtain ⟨dk, rqs, sv, hB9⟩ := hS0
  obtain ⟨bcs, qu, cs, kbl, -⟩ := hB9.cells
  have hS0 : ALy E h bl med S := ⟨dk, rqs, sv, hB9⟩
  refine lv_aload_n hx hb d_LW_load_0 rfl (lv_at hl 2 rfl) ?_
  refine lv_iconst (v := 0) hx hb d_LW_load_1 (by decide) ?_
  refine lv_aload_n hx hb d_LW_load_2 rfl (lv_at hl 0 rfl) ?_
  refine lv_iload_n hx hb d_LW_load_3 rfl (lv_at hl 1 rfl) ?_
  refine fh_callV (C := R_BL) (y := y_BL_load) (bytes := b_BL_load) (maxL := 5) (ret := (some .int)) (index := 7) (As := [.int (nI n)]) (rest := [.int 0, .ref out]) ⟨hx, hb, hml, hown, hG⟩ (c_BL_load l E h bl med S t hS0 hI n hn hroom N hNB hN) (cwV 1 hG (gV gm434 gm435 gm436 gm1 gm437) rfl rfl rfl ⟨rfl, hdy_BL_load⟩ ⟨Nat.le_of_ble_eq_true rfl, Nat.le_of_ble_eq_true rfl⟩) C_BL.1 kbl hK hZ hP hS hA rfl hl.1 rfl (Nat.le_of_ble_eq_true rfl) d_LW_load_4 ⟨Nat.le_of_ble_eq_true rfl, Nat.le_of_ble_eq_true rfl⟩ (fun r h1 H locs hq9 hP hS => ?_)
  obtain ⟨rfl, hA9, hK9⟩ := hq9
  refine W.eq (g2 := F0 m 7 ls [.int ((loadM S (nI n)).2), .int 0, .ref out]) rfl ?_
  refine lv_i2l hx hb d_LW_load_7 rfl ?_
  have ko := hK9 out _ ho hom trivial
  have ed1 := hZ.edn hP
  refine fh_last hx hb hK hP hS 1 ko rfl (vp_in_nI (n := 0) (N := 1) (by decide) (by decide)) d_LW_load_8 (fun H locs hP hS => ?_)
  obtain ⟨h2, eh⟩ : ∃ z : fh_H, z = va_up h1 out (some (.inl (fh_cJ E, 1, .inr (.inl (vp_updL fo (nI 0).toNatClampNeg ((loadM S (nI n)).2).toInt64))))) := ⟨_, rfl⟩
  have hP : fh_P E.1 vwCl A h2 H := by rw [eh]; exact hP
  have ed2 := hZ.edn hP
  refine lv_goto (tgt := 18) hx hb d_LW_load_9 (by decide) ?_
  refine lv_iconst (v := 0) hx hb d_LW_load_18 (by decide) ?_
  exact fh_iret hx hb hr hlocks (Nat.le_of_ble_eq_true rfl) (Nat.le_of_ble_eq_true rfl) hP hS ⟨rfl, ⟨vp_updL fo (nI 0).toNatClampNeg ((loadM S (nI n)).2).toInt64, by rw [eh]; exact va_up_self _ _ _, by rw [nI_clamp (by decide)]; exact if_pos rfl⟩, hA9.keep ed1 ed2 (fun b e hb z => by rw [eh, va_up_ne _ _ (fun w => by rw [w, ko] at hb; cases hb; exact z.elim (fun u => hom (w.symm.trans u)) (fun u => u trivial))]; exact hb), fun b e hb n1 n2 w => by rw [eh, va_up_ne _ _ n2]; exact hK9 b e hb n1 w⟩ d_LW_load_19

set_option maxHeartbeats 800000 in
set_option maxRecDepth 100000 in
theorem c_LW_load_b (l : Launch) (E : fh_E) (h : fh_H) (bl med : Nat) (S : mS) (t : Nat) (hS0 : ALy E h bl med S) (hI : Inv S t) (out : Nat) (hfl : l.flags = pinnedFlags ++ [noTraceFlag]) (b : Int32) (hbad : b.toInt < 0 ∨ (256 : Int) ≤ b.toInt)  : fh_Met l y_LW_load w_LW_load ({ frames := 12, cells := 90, slots := 3362, locals := 303 }) E [.ref bl, .int b, .ref out] h (fun r h1 => r = some (.int 1) ∧ h1 = h) 90 3362 := by
  refine lw_ofW (cc := b_LW_load) (maxL := 4) (ret := (some .int)) (hh := [(0, 9, 12, 13), (0, 9, 15, 15)]) (by decide) rfl (Nat.le_of_ble_eq_true rfl) ?_
  intro p e s m below meth c A ls hx hb hr hml hown hts hlocks hname htab hadm hA hK hZ hP hS hl
  have hG : ∀ w ∈ G, w.before _ s = true := fun w hw => hts w (List.mem_cons_of_mem _ hw)
  have hown : s.vm.findClass R_LW = some m.cls := hown
  have hl : lv_has ls 4 [(0, .ref bl), (1, .int b), (2, .ref out)] := hl
  obtain ⟨dk, rqs, sv, hB9⟩ := hS0
  obtain ⟨bcs, qu, cs, kbl, -⟩ := hB9.cells
  have hS0 : ALy E h bl med S := ⟨dk, rqs, sv, hB9⟩
  refine lv_aload_n hx hb d_LW_load_0 rfl (lv_at hl 2 rfl) ?_
  refine lv_iconst (v := 0) hx hb d_LW_load_1 (by decide) ?_
  refine lv_aload_n hx hb d_LW_load_2 rfl (lv_at hl 0 rfl) ?_
  refine lv_iload_n hx hb d_LW_load_3 rfl (lv_at hl 1 rfl) ?_
  refine lw_callV1 (C := R_BL) (y := y_BL_load) (bytes := b_BL_load) (maxL := 5) (ret := (some .int)) (index := 7) (As := [.int b]) (rest := [.int 0, .ref out]) ⟨hx, hb, hml, hown, hG⟩ (t_BL_load_b l E h hfl bl b hbad) (cwV 1 hG (gV gm434 gm435 gm436 gm1 gm437) rfl rfl rfl ⟨rfl, hdy_BL_load⟩ ⟨Nat.le_of_ble_eq_true rfl, Nat.le_of_ble_eq_true rfl⟩) C_BL.1 kbl hK hZ hP hS hA rfl hl.1 rfl (Nat.le_of_ble_eq_true rfl) d_LW_load_4 ⟨Nat.le_of_ble_eq_true rfl, Nat.le_of_ble_eq_true rfl⟩ htab rfl (by decide) (hG _ gm432) (fun x9 H locs hP hS => ?_)
  refine lv_astore_n (lv' := [(3, .ref x9), (0, .ref bl), (1, .int b), (2, .ref out)]) hx hb d_LW_load_12 rfl hl (by decide) rfl (fun ls hl => ?_)
  refine lv_iconst (v := 1) hx hb d_LW_load_13 (by decide) ?_
  exact fh_iret hx hb hr hlocks (Nat.le_of_ble_eq_true rfl) (Nat.le_of_ble_eq_true rfl) hP hS ⟨rfl, rfl⟩ d_LW_load_14

set_option maxHeartbeats 800000 in
set_option maxRecDepth 100000 in
theorem c_LW_load_q (l : Launch) (E : fh_E) (h : fh_H) (bl med : Nat) (S : mS) (t : Nat) (hS0 : ALy E h bl med S) (hI : Inv S t) (out : Nat) (hfl : l.flags = pinnedFlags ++ [noTraceFlag]) (n : Nat) (hn : n < 256) (hbad : 40 < S.q.length + 2) : fh_Met l y_LW_load w_LW_load ({ frames := 12, cells := 90, slots := 3362, locals := 303 }) E [.ref bl, .int (nI n), .ref out] h (fun r h1 => r = some (.int 2) ∧ h1 = h) 90 3362 := by
  refine lw_ofW (cc := b_LW_load) (maxL := 4) (ret := (some .int)) (hh := [(0, 9, 12, 13), (0, 9, 15, 15)]) (by decide) rfl (Nat.le_of_ble_eq_true rfl) ?_
  intro p e s m below meth c A ls hx hb hr hml hown hts hlocks hname htab hadm hA hK hZ hP hS hl
  have hG : ∀ w ∈ G, w.before _ s = true := fun w hw => hts w (List.mem_cons_of_mem _ hw)
  have hown : s.vm.findClass R_LW = some m.cls := hown
  have hl : lv_has ls 4 [(0, .ref bl), (1, .int (nI n)), (2, .ref out)] := hl
  obtain ⟨dk, rqs, sv, hB9⟩ := hS0
  obtain ⟨bcs, qu, cs, kbl, -⟩ := hB9.cells
  have hS0 : ALy E h bl med S := ⟨dk, rqs, sv, hB9⟩
  refine lv_aload_n hx hb d_LW_load_0 rfl (lv_at hl 2 rfl) ?_
  refine lv_iconst (v := 0) hx hb d_LW_load_1 (by decide) ?_
  refine lv_aload_n hx hb d_LW_load_2 rfl (lv_at hl 0 rfl) ?_
  refine lv_iload_n hx hb d_LW_load_3 rfl (lv_at hl 1 rfl) ?_
  refine lw_callV2 (C := R_BL) (y := y_BL_load) (bytes := b_BL_load) (maxL := 5) (ret := (some .int)) (index := 7) (As := [.int (nI n)]) (rest := [.int 0, .ref out]) ⟨hx, hb, hml, hown, hG⟩ (t_BL_load_q l E h bl med S t hfl hS0 hI n hn hbad) (cwV 1 hG (gV gm434 gm435 gm436 gm1 gm437) rfl rfl rfl ⟨rfl, hdy_BL_load⟩ ⟨Nat.le_of_ble_eq_true rfl, Nat.le_of_ble_eq_true rfl⟩) C_BL.1 kbl hK hZ hP hS hA rfl hl.1 rfl (Nat.le_of_ble_eq_true rfl) d_LW_load_4 ⟨Nat.le_of_ble_eq_true rfl, Nat.le_of_ble_eq_true rfl⟩ htab rfl (by decide) rfl (by decide) (hG _ gm432) (hG _ gm433) hZ.2.2.2.2.2.2.2.2.2.2.1 (fun x9 H locs hP hS => ?_)
  refine lv_astore_n (lv' := [(3, .ref x9), (0, .ref bl), (1, .int (nI n)), (2, .ref out)]) hx hb d_LW_load_15 rfl hl (by decide) rfl (fun ls hl => ?_)
  refine lv_iconst (v := 2) hx hb d_LW_load_16 (by decide) ?_
  exact fh_iret hx hb hr hlocks (Nat.le_of_ble_eq_true rfl) (Nat.le_of_ble_eq_true rfl) hP hS ⟨rfl, rfl⟩ d_LW_load_17

set_option maxHeartbeats 800000 in
set_option maxRecDepth 100000 in
theorem c_LW_save (l : Launch) (E : fh_E) (h : fh_H) (bl med : Nat) (S : mS) (t : Nat) (hS0 : ALy E h bl med S) (hI : Inv S t) (out : Nat) (fo : Nat → Int64) (ho : h out = some (.inl (fh_cJ E, 1, .inr (.inl fo)))) (hom : out ≠ med) (n : Nat) (hn : n < 256) (hroom : S.q.length + 2 ≤ 40) (v : Int32) : fh_Met l y_LW_save w_LW_save ({ frames := 12, cells := 6, slots := 167, locals := 303 }) E [.ref bl, .int (nI n), .int v, .ref out] h (fun r h1 => r = some (.int 0) ∧ (∃ f2, h1 out = some (.inl (fh_cJ E, 1, .inr (.inl f2))) ∧ f2 0 = ((saveM S (nI n) v).2).toInt64) ∧ ALy E h1 bl med ((saveM S (nI n) v).1) ∧ ∀ b e, h b = some e → b ≠ med → b ≠ out → oth e → h1 b = some e) 6 167 := by
  refine lw_ofW (cc := b_LW_save) (maxL := 5) (ret := (some .int)) (hh := [(0, 10, 13, 13), (0, 10, 17, 15)]) (by decide) rfl (Nat.le_of_ble_eq_true rfl) ?_
  intro p e s m below meth c A ls hx hb hr hml hown hts hlocks hname htab hadm hA hK hZ hP hS hl
  have hG : ∀ w ∈ G, w.before _ s = true := fun w hw => hts w (List.mem_cons_of_mem _ hw)
  have hown : s.vm.findClass R_LW = some m.cls := hown
  have hl : lv_has ls 5 [(0, .ref bl), (1, .int (nI n)), (2, .int v), (3, .ref out)] := hl
  obtain ⟨dk, rqs, sv, hB9⟩ := hS0
  obtain ⟨bcs, qu, cs, kbl, -⟩ := hB9.cells
  have hS0 : ALy E h bl med S := ⟨dk, rqs, sv, hB9⟩
  refine lv_aload_n hx hb d_LW_save_0 rfl (lv_at hl 3 rfl) ?_
  refine lv_iconst (v := 0) hx hb d_LW_save_1 (by decide) ?_
  refine lv_aload_n hx hb d_LW_save_2 rfl (lv_at hl 0 rfl) ?_
  refine lv_iload_n hx hb d_LW_save_3 rfl (lv_at hl 1 rfl) ?_
  refine lv_iload_n hx hb d_LW_save_4 rfl (lv_at hl 2 rfl) ?_
  refine fh_callV (C := R_BL) (y := y_BL_save) (bytes := b_BL_save) (maxL := 5) (ret := (some .int)) (index := 17) (As := [.int (nI n), .int v]) (rest := [.int 0, .ref out]) ⟨hx, hb, hml, hown, hG⟩ (c_BL_save l E h bl med S t hS0 hI n hn hroom v) (cwV 2 hG (gV gm595 gm596 gm597 gm1 gm598) rfl rfl rfl ⟨rfl, hdy_BL_save⟩ ⟨Nat.le_of_ble_eq_true rfl, Nat.le_of_ble_eq_true rfl⟩) C_BL.1 kbl hK hZ hP hS hA rfl hl.1 rfl (Nat.le_of_ble_eq_true rfl) d_LW_save_5 ⟨Nat.le_of_ble_eq_true rfl, Nat.le_of_ble_eq_true rfl⟩ (fun r h1 H locs hq9 hP hS => ?_)
  obtain ⟨rfl, hA9, hK9⟩ := hq9
  refine W.eq (g2 := F0 m 8 ls [.int ((saveM S (nI n) v).2), .int 0, .ref out]) rfl ?_
  refine lv_i2l hx hb d_LW_save_8 rfl ?_
  have ko := hK9 out _ ho hom trivial
  have ed1 := hZ.edn hP
  refine fh_last hx hb hK hP hS 1 ko rfl (vp_in_nI (n := 0) (N := 1) (by decide) (by decide)) d_LW_save_9 (fun H locs hP hS => ?_)
  obtain ⟨h2, eh⟩ : ∃ z : fh_H, z = va_up h1 out (some (.inl (fh_cJ E, 1, .inr (.inl (vp_updL fo (nI 0).toNatClampNeg ((saveM S (nI n) v).2).toInt64))))) := ⟨_, rfl⟩
  have hP : fh_P E.1 vwCl A h2 H := by rw [eh]; exact hP
  have ed2 := hZ.edn hP
  refine lv_goto (tgt := 21) hx hb d_LW_save_10 (by decide) ?_
  refine lv_iconst (v := 0) hx hb d_LW_save_21 (by decide) ?_
  exact fh_iret hx hb hr hlocks (Nat.le_of_ble_eq_true rfl) (Nat.le_of_ble_eq_true rfl) hP hS ⟨rfl, ⟨vp_updL fo (nI 0).toNatClampNeg ((saveM S (nI n) v).2).toInt64, by rw [eh]; exact va_up_self _ _ _, by rw [nI_clamp (by decide)]; exact if_pos rfl⟩, hA9.keep ed1 ed2 (fun b e hb z => by rw [eh, va_up_ne _ _ (fun w => by rw [w, ko] at hb; cases hb; exact z.elim (fun u => hom (w.symm.trans u)) (fun u => u trivial))]; exact hb), fun b e hb n1 n2 w => by rw [eh, va_up_ne _ _ n2]; exact hK9 b e hb n1 w⟩ d_LW_save_22

set_option maxHeartbeats 800000 in
set_option maxRecDepth 100000 in
theorem c_LW_save_b (l : Launch) (E : fh_E) (h : fh_H) (bl med : Nat) (S : mS) (t : Nat) (hS0 : ALy E h bl med S) (hI : Inv S t) (out : Nat) (hfl : l.flags = pinnedFlags ++ [noTraceFlag]) (b : Int32) (hbad : b.toInt < 0 ∨ (256 : Int) ≤ b.toInt) (v : Int32) : fh_Met l y_LW_save w_LW_save ({ frames := 12, cells := 6, slots := 167, locals := 303 }) E [.ref bl, .int b, .int v, .ref out] h (fun r h1 => r = some (.int 1) ∧ h1 = h) 6 167 := by
  refine lw_ofW (cc := b_LW_save) (maxL := 5) (ret := (some .int)) (hh := [(0, 10, 13, 13), (0, 10, 17, 15)]) (by decide) rfl (Nat.le_of_ble_eq_true rfl) ?_
  intro p e s m below meth c A ls hx hb hr hml hown hts hlocks hname htab hadm hA hK hZ hP hS hl
  have hG : ∀ w ∈ G, w.before _ s = true := fun w hw => hts w (List.mem_cons_of_mem _ hw)
  have hown : s.vm.findClass R_LW = some m.cls := hown
  have hl : lv_has ls 5 [(0, .ref bl), (1, .int b), (2, .int v), (3, .ref out)] := hl
  obtain ⟨dk, rqs, sv, hB9⟩ := hS0
  obtain ⟨bcs, qu, cs, kbl, -⟩ := hB9.cells
  have hS0 : ALy E h bl med S := ⟨dk, rqs, sv, hB9⟩
  refine lv_aload_n hx hb d_LW_save_0 rfl (lv_at hl 3 rfl) ?_
  refine lv_iconst (v := 0) hx hb d_LW_save_1 (by decide) ?_
  refine lv_aload_n hx hb d_LW_save_2 rfl (lv_at hl 0 rfl) ?_
  refine lv_iload_n hx hb d_LW_save_3 rfl (lv_at hl 1 rfl) ?_
  refine lv_iload_n hx hb d_LW_save_4 rfl (lv_at hl 2 rfl) ?_
  refine lw_callV1 (C := R_BL) (y := y_BL_save) (bytes := b_BL_save) (maxL := 5) (ret := (some .int)) (index := 17) (As := [.int b, .int v]) (rest := [.int 0, .ref out]) ⟨hx, hb, hml, hown, hG⟩ (t_BL_save_b l E h hfl bl b v hbad) (cwV 2 hG (gV gm595 gm596 gm597 gm1 gm598) rfl rfl rfl ⟨rfl, hdy_BL_save⟩ ⟨Nat.le_of_ble_eq_true rfl, Nat.le_of_ble_eq_true rfl⟩) C_BL.1 kbl hK hZ hP hS hA rfl hl.1 rfl (Nat.le_of_ble_eq_true rfl) d_LW_save_5 ⟨Nat.le_of_ble_eq_true rfl, Nat.le_of_ble_eq_true rfl⟩ htab rfl (by decide) (hG _ gm432) (fun x9 H locs hP hS => ?_)
  refine lv_astore (lv' := [(4, .ref x9), (0, .ref bl), (1, .int b), (2, .int v), (3, .ref out)]) hx hb d_LW_save_13 hl (by decide) rfl (fun ls hl => ?_)
  refine lv_iconst (v := 1) hx hb d_LW_save_15 (by decide) ?_
  exact fh_iret hx hb hr hlocks (Nat.le_of_ble_eq_true rfl) (Nat.le_of_ble_eq_true rfl) hP hS ⟨rfl, rfl⟩ d_LW_save_16

set_option maxHeartbeats 800000 in
set_option maxRecDepth 100000 in
theorem c_LW_save_q (l : Launch) (E : fh_E) (h : fh_H) (bl med : Nat) (S : mS) (t : Nat) (hS0 : ALy E h bl med S) (hI : Inv S t) (out : Nat) (hfl : l.flags = pinnedFlags ++ [noTraceFlag]) (n : Nat) (hn : n < 256) (hbad : 40 < S.q.length + 2) (v : Int32) : fh_Met l y_LW_save w_LW_save ({ frames := 12, cells := 6, slots := 167, locals := 303 }) E [.ref bl, .int (nI n), .int v, .ref out] h (fun r h1 => r = some (.int 2) ∧ h1 = h) 6 167 := by
  refine lw_ofW (cc := b_LW_save) (maxL := 5) (ret := (some .int)) (hh := [(0, 10, 13, 13), (0, 10, 17, 15)]) (by decide) rfl (Nat.le_of_ble_eq_true rfl) ?_
  intro p e s m below meth c A ls hx hb hr hml hown hts hlocks hname htab hadm hA hK hZ hP hS hl
  have hG : ∀ w ∈ G, w.before _ s = true := fun w hw => hts w (List.mem_cons_of_mem _ hw)
  have hown : s.vm.findClass R_LW = some m.cls := hown
  have hl : lv_has ls 5 [(0, .ref bl), (1, .int (nI n)), (2, .int v), (3, .ref out)] := hl
  obtain ⟨dk, rqs, sv, hB9⟩ := hS0
  obtain ⟨bcs, qu, cs, kbl, -⟩ := hB9.cells
  have hS0 : ALy E h bl med S := ⟨dk, rqs, sv, hB9⟩
  refine lv_aload_n hx hb d_LW_save_0 rfl (lv_at hl 3 rfl) ?_
  refine lv_iconst (v := 0) hx hb d_LW_save_1 (by decide) ?_
  refine lv_aload_n hx hb d_LW_save_2 rfl (lv_at hl 0 rfl) ?_
  refine lv_iload_n hx hb d_LW_save_3 rfl (lv_at hl 1 rfl) ?_
  refine lv_iload_n hx hb d_LW_save_4 rfl (lv_at hl 2 rfl) ?_
  refine lw_callV2 (C := R_BL) (y := y_BL_save) (bytes := b_BL_save) (maxL := 5) (ret := (some .int)) (index := 17) (As := [.int (nI n), .int v]) (rest := [.int 0, .ref out]) ⟨hx, hb, hml, hown, hG⟩ (t_BL_save_q l E h bl med S t hfl hS0 hI n hn hbad v) (cwV 2 hG (gV gm595 gm596 gm597 gm1 gm598) rfl rfl rfl ⟨rfl, hdy_BL_save⟩ ⟨Nat.le_of_ble_eq_true rfl, Nat.le_of_ble_eq_true rfl⟩) C_BL.1 kbl hK hZ hP hS hA rfl hl.1 rfl (Nat.le_of_ble_eq_true rfl) d_LW_save_5 ⟨Nat.le_of_ble_eq_true rfl, Nat.le_of_ble_eq_true rfl⟩ htab rfl (by decide) rfl (by decide) (hG _ gm432) (hG _ gm433) hZ.2.2.2.2.2.2.2.2.2.2.1 (fun x9 H locs hP hS => ?_)
  refine lv_astore (lv' := [(4, .ref x9), (0, .ref bl), (1, .int (nI n)), (2, .int v), (3, .ref out)]) hx hb d_LW_save_17 hl (by decide) rfl (fun ls hl => ?_)
  refine lv_iconst (v := 2) hx hb d_LW_save_19 (by decide) ?_
  exact fh_iret hx hb hr hlocks (Nat.le_of_ble_eq_true rfl) (Nat.le_of_ble_eq_true rfl) hP hS ⟨rfl, rfl⟩ d_LW_save_20

set_option maxHeartbeats 800000 in
set_option maxRecDepth 100000 in
theorem c_LW_sync (l : Launch) (E : fh_E) (h : fh_H) (bl med : Nat) (S : mS) (t : Nat) (hS0 : ALy E h bl med S) (hI : Inv S t) (out : Nat) (fo : Nat → Int64) (ho : h out = some (.inl (fh_cJ E, 1, .inr (.inl fo)))) (hom : out ≠ med) (hroom : S.q.length + S.bs.length + 1 ≤ 40) : fh_Met l y_LW_sync w_LW_sync ({ frames := 11, cells := 23, slots := 875, locals := 281 }) E [.ref bl, .ref out] h (fun r h1 => r = some (.int 0) ∧ (∃ f2, h1 out = some (.inl (fh_cJ E, 1, .inr (.inl f2))) ∧ f2 0 = (nI (syM 10 0 S).2).toInt64) ∧ ALy E h1 bl med (addM (syM 10 0 S).1 2 (-1) 0) ∧ ∀ b e, h b = some e → b ≠ med → b ≠ out → oth e → h1 b = some e) 23 875 := by
  refine lw_ofW (cc := b_LW_sync) (maxL := 3) (ret := (some .int)) (hh := [(0, 8, 11, 15)]) (by decide) rfl (Nat.le_of_ble_eq_true rfl) ?_
  intro p e s m below meth c A ls hx hb hr hml hown hts hlocks hname htab hadm hA hK hZ hP hS hl
  have hG : ∀ w ∈ G, w.before _ s = true := fun w hw => hts w (List.mem_cons_of_mem _ hw)
  have hown : s.vm.findClass R_LW = some m.cls := hown
  have hl : lv_has ls 3 [(0, .ref bl), (1, .ref out)] := hl
  obtain ⟨dk, rqs, sv, hB9⟩ := hS0
  obtain ⟨bcs, qu, cs, kbl, -⟩ := hB9.cells
  have hS0 : ALy E h bl med S := ⟨dk, rqs, sv, hB9⟩
  refine lv_aload_n hx hb d_LW_sync_0 rfl (lv_at hl 1 rfl) ?_
  refine lv_iconst (v := 0) hx hb d_LW_sync_1 (by decide) ?_
  refine lv_aload_n hx hb d_LW_sync_2 rfl (lv_at hl 0 rfl) ?_
  refine fh_callV (C := R_BL) (y := y_BL_sync) (bytes := b_BL_sync) (maxL := 4) (ret := (some .int)) (index := 21) (As := []) (rest := [.int 0, .ref out]) ⟨hx, hb, hml, hown, hG⟩ (c_BL_sync l E h bl med S t hS0 hI hroom) (cwV 0 hG (gV gm602 gm603 gm604 gm1 gm605) rfl rfl rfl ⟨rfl, hdy_BL_sync⟩ ⟨Nat.le_of_ble_eq_true rfl, Nat.le_of_ble_eq_true rfl⟩) C_BL.1 kbl hK hZ hP hS hA rfl hl.1 rfl (Nat.le_of_ble_eq_true rfl) d_LW_sync_3 ⟨Nat.le_of_ble_eq_true rfl, Nat.le_of_ble_eq_true rfl⟩ (fun r h1 H locs hq9 hP hS => ?_)
  obtain ⟨rfl, hA9, hK9⟩ := hq9
  refine W.eq (g2 := F0 m 6 ls [.int (nI (syM 10 0 S).2), .int 0, .ref out]) rfl ?_
  refine lv_i2l hx hb d_LW_sync_6 rfl ?_
  have ko := hK9 out _ ho hom trivial
  have ed1 := hZ.edn hP
  refine fh_last hx hb hK hP hS 1 ko rfl (vp_in_nI (n := 0) (N := 1) (by decide) (by decide)) d_LW_sync_7 (fun H locs hP hS => ?_)
  obtain ⟨h2, eh⟩ : ∃ z : fh_H, z = va_up h1 out (some (.inl (fh_cJ E, 1, .inr (.inl (vp_updL fo (nI 0).toNatClampNeg (nI (syM 10 0 S).2).toInt64))))) := ⟨_, rfl⟩
  have hP : fh_P E.1 vwCl A h2 H := by rw [eh]; exact hP
  have ed2 := hZ.edn hP
  refine lv_goto (tgt := 14) hx hb d_LW_sync_8 (by decide) ?_
  refine lv_iconst (v := 0) hx hb d_LW_sync_14 (by decide) ?_
  exact fh_iret hx hb hr hlocks (Nat.le_of_ble_eq_true rfl) (Nat.le_of_ble_eq_true rfl) hP hS ⟨rfl, ⟨vp_updL fo (nI 0).toNatClampNeg (nI (syM 10 0 S).2).toInt64, by rw [eh]; exact va_up_self _ _ _, by rw [nI_clamp (by decide)]; exact if_pos rfl⟩, hA9.keep ed1 ed2 (fun b e hb z => by rw [eh, va_up_ne _ _ (fun w => by rw [w, ko] at hb; cases hb; exact z.elim (fun u => hom (w.symm.trans u)) (fun u => u trivial))]; exact hb), fun b e hb n1 n2 w => by rw [eh, va_up_ne _ _ n2]; exact hK9 b e hb n1 w⟩ d_LW_sync_15

set_option maxHeartbeats 800000 in
set_option maxRecDepth 100000 in
theorem c_LW_sync_q (l : Launch) (E : fh_E) (h : fh_H) (bl med : Nat) (S : mS) (t : Nat) (hS0 : ALy E h bl med S) (hI : Inv S t) (out : Nat) (hfl : l.flags = pinnedFlags ++ [noTraceFlag]) (hbad : 40 < S.q.length + S.bs.length + 1) : fh_Met l y_LW_sync w_LW_sync ({ frames := 11, cells := 23, slots := 875, locals := 281 }) E [.ref bl, .ref out] h (fun r h1 => r = some (.int 1) ∧ h1 = h) 23 875 := by
  refine lw_ofW (cc := b_LW_sync) (maxL := 3) (ret := (some .int)) (hh := [(0, 8, 11, 15)]) (by decide) rfl (Nat.le_of_ble_eq_true rfl) ?_
  intro p e s m below meth c A ls hx hb hr hml hown hts hlocks hname htab hadm hA hK hZ hP hS hl
  have hG : ∀ w ∈ G, w.before _ s = true := fun w hw => hts w (List.mem_cons_of_mem _ hw)
  have hown : s.vm.findClass R_LW = some m.cls := hown
  have hl : lv_has ls 3 [(0, .ref bl), (1, .ref out)] := hl
  obtain ⟨dk, rqs, sv, hB9⟩ := hS0
  obtain ⟨bcs, qu, cs, kbl, -⟩ := hB9.cells
  have hS0 : ALy E h bl med S := ⟨dk, rqs, sv, hB9⟩
  refine lv_aload_n hx hb d_LW_sync_0 rfl (lv_at hl 1 rfl) ?_
  refine lv_iconst (v := 0) hx hb d_LW_sync_1 (by decide) ?_
  refine lv_aload_n hx hb d_LW_sync_2 rfl (lv_at hl 0 rfl) ?_
  refine lw_callV1 (C := R_BL) (y := y_BL_sync) (bytes := b_BL_sync) (maxL := 4) (ret := (some .int)) (index := 21) (As := []) (rest := [.int 0, .ref out]) ⟨hx, hb, hml, hown, hG⟩ (t_BL_sync_q l E h bl med S t hfl hS0 hI hbad) (cwV 0 hG (gV gm602 gm603 gm604 gm1 gm605) rfl rfl rfl ⟨rfl, hdy_BL_sync⟩ ⟨Nat.le_of_ble_eq_true rfl, Nat.le_of_ble_eq_true rfl⟩) C_BL.1 kbl hK hZ hP hS hA rfl hl.1 rfl (Nat.le_of_ble_eq_true rfl) d_LW_sync_3 ⟨Nat.le_of_ble_eq_true rfl, Nat.le_of_ble_eq_true rfl⟩ htab rfl (by decide) (hG _ gm433) (fun x9 H locs hP hS => ?_)
  refine lv_astore_n (lv' := [(2, .ref x9), (0, .ref bl), (1, .ref out)]) hx hb d_LW_sync_11 rfl hl (by decide) rfl (fun ls hl => ?_)
  refine lv_iconst (v := 1) hx hb d_LW_sync_12 (by decide) ?_
  exact fh_iret hx hb hr hlocks (Nat.le_of_ble_eq_true rfl) (Nat.le_of_ble_eq_true rfl) hP hS ⟨rfl, rfl⟩ d_LW_sync_13

set_option maxHeartbeats 800000 in
set_option maxRecDepth 100000 in
theorem c_LW_step (l : Launch) (E : fh_E) (h : fh_H) (bl med : Nat) (S : mS) (t : Nat) (hS0 : ALy E h bl med S) (hI : Inv S t) (out : Nat) (fo : Nat → Int64) (ho : h out = some (.inl (fh_cJ E, 1, .inr (.inl fo)))) (hom : out ≠ med) (n : Nat) (hn1 : 1 ≤ n) (hn2 : n ≤ 1000) : fh_Met l y_LW_step w_LW_step ({ frames := 12, cells := 86, slots := 3268, locals := 300 }) E [.ref bl, .int (nI n), .ref out] h (fun r h1 => r = some (.int 0) ∧ (∃ f2, h1 out = some (.inl (fh_cJ E, 1, .inr (.inl f2))) ∧ f2 0 = ((paM 43 n S).tm).toInt64) ∧ ALy E h1 bl med (paM 43 n S) ∧ ∀ b e, h b = some e → b ≠ med → b ≠ out → oth e → h1 b = some e) 86 3268 := by
  refine lw_ofW (cc := b_LW_step) (maxL := 4) (ret := (some .int)) (hh := [(0, 9, 12, 28)]) (by decide) rfl (Nat.le_of_ble_eq_true rfl) ?_
  intro p e s m below meth c A ls hx hb hr hml hown hts hlocks hname htab hadm hA hK hZ hP hS hl
  have hG : ∀ w ∈ G, w.before _ s = true := fun w hw => hts w (List.mem_cons_of_mem _ hw)
  have hown : s.vm.findClass R_LW = some m.cls := hown
  have hl : lv_has ls 4 [(0, .ref bl), (1, .int (nI n)), (2, .ref out)] := hl
  obtain ⟨dk, rqs, sv, hB9⟩ := hS0
  obtain ⟨bcs, qu, cs, kbl, -⟩ := hB9.cells
  have hS0 : ALy E h bl med S := ⟨dk, rqs, sv, hB9⟩
  refine lv_aload_n hx hb d_LW_step_0 rfl (lv_at hl 2 rfl) ?_
  refine lv_iconst (v := 0) hx hb d_LW_step_1 (by decide) ?_
  refine lv_aload_n hx hb d_LW_step_2 rfl (lv_at hl 0 rfl) ?_
  refine lv_iload_n hx hb d_LW_step_3 rfl (lv_at hl 1 rfl) ?_
  refine fh_callV (C := R_BL) (y := y_BL_step) (bytes := b_BL_step) (maxL := 2) (ret := (some .int)) (index := 25) (As := [.int (nI n)]) (rest := [.int 0, .ref out]) ⟨hx, hb, hml, hown, hG⟩ (c_BL_step l E h bl med S t hS0 hI n hn1 hn2) (cwV 1 hG (gV gm614 gm615 gm616 gm1 gm617) rfl rfl rfl ⟨rfl, hdy_BL_step⟩ ⟨Nat.le_of_ble_eq_true rfl, Nat.le_of_ble_eq_true rfl⟩) C_BL.1 kbl hK hZ hP hS hA rfl hl.1 rfl (Nat.le_of_ble_eq_true rfl) d_LW_step_4 ⟨Nat.le_of_ble_eq_true rfl, Nat.le_of_ble_eq_true rfl⟩ (fun r h1 H locs hq9 hP hS => ?_)
  obtain ⟨rfl, hA9, hK9⟩ := hq9
  refine W.eq (g2 := F0 m 7 ls [.int ((paM 43 n S).tm), .int 0, .ref out]) rfl ?_
  refine lv_i2l hx hb d_LW_step_7 rfl ?_
  have ko := hK9 out _ ho hom trivial
  have ed1 := hZ.edn hP
  refine fh_last hx hb hK hP hS 1 ko rfl (vp_in_nI (n := 0) (N := 1) (by decide) (by decide)) d_LW_step_8 (fun H locs hP hS => ?_)
  obtain ⟨h2, eh⟩ : ∃ z : fh_H, z = va_up h1 out (some (.inl (fh_cJ E, 1, .inr (.inl (vp_updL fo (nI 0).toNatClampNeg ((paM 43 n S).tm).toInt64))))) := ⟨_, rfl⟩
  have hP : fh_P E.1 vwCl A h2 H := by rw [eh]; exact hP
  have ed2 := hZ.edn hP
  refine lv_goto (tgt := 15) hx hb d_LW_step_9 (by decide) ?_
  refine lv_iconst (v := 0) hx hb d_LW_step_15 (by decide) ?_
  exact fh_iret hx hb hr hlocks (Nat.le_of_ble_eq_true rfl) (Nat.le_of_ble_eq_true rfl) hP hS ⟨rfl, ⟨vp_updL fo (nI 0).toNatClampNeg ((paM 43 n S).tm).toInt64, by rw [eh]; exact va_up_self _ _ _, by rw [nI_clamp (by decide)]; exact if_pos rfl⟩, hA9.keep ed1 ed2 (fun b e hb z => by rw [eh, va_up_ne _ _ (fun w => by rw [w, ko] at hb; cases hb; exact z.elim (fun u => hom (w.symm.trans u)) (fun u => u trivial))]; exact hb), fun b e hb n1 n2 w => by rw [eh, va_up_ne _ _ n2]; exact hK9 b e hb n1 w⟩ d_LW_step_16

set_option maxHeartbeats 800000 in
set_option maxRecDepth 100000 in
theorem c_LW_step_b (l : Launch) (E : fh_E) (h : fh_H) (bl med : Nat) (S : mS) (t : Nat) (hS0 : ALy E h bl med S) (hI : Inv S t) (out : Nat) (hfl : l.flags = pinnedFlags ++ [noTraceFlag]) (b : Int32) (hbad : b.toInt < 1 ∨ (1000 : Int) < b.toInt) : fh_Met l y_LW_step w_LW_step ({ frames := 12, cells := 86, slots := 3268, locals := 300 }) E [.ref bl, .int b, .ref out] h (fun r h1 => r = some (.int 1) ∧ h1 = h) 86 3268 := by
  refine lw_ofW (cc := b_LW_step) (maxL := 4) (ret := (some .int)) (hh := [(0, 9, 12, 28)]) (by decide) rfl (Nat.le_of_ble_eq_true rfl) ?_
  intro p e s m below meth c A ls hx hb hr hml hown hts hlocks hname htab hadm hA hK hZ hP hS hl
  have hG : ∀ w ∈ G, w.before _ s = true := fun w hw => hts w (List.mem_cons_of_mem _ hw)
  have hown : s.vm.findClass R_LW = some m.cls := hown
  have hl : lv_has ls 4 [(0, .ref bl), (1, .int b), (2, .ref out)] := hl
  obtain ⟨dk, rqs, sv, hB9⟩ := hS0
  obtain ⟨bcs, qu, cs, kbl, -⟩ := hB9.cells
  have hS0 : ALy E h bl med S := ⟨dk, rqs, sv, hB9⟩
  refine lv_aload_n hx hb d_LW_step_0 rfl (lv_at hl 2 rfl) ?_
  refine lv_iconst (v := 0) hx hb d_LW_step_1 (by decide) ?_
  refine lv_aload_n hx hb d_LW_step_2 rfl (lv_at hl 0 rfl) ?_
  refine lv_iload_n hx hb d_LW_step_3 rfl (lv_at hl 1 rfl) ?_
  refine lw_callV1 (C := R_BL) (y := y_BL_step) (bytes := b_BL_step) (maxL := 2) (ret := (some .int)) (index := 25) (As := [.int b]) (rest := [.int 0, .ref out]) ⟨hx, hb, hml, hown, hG⟩ (t_BL_step l E h hfl bl b hbad) (cwV 1 hG (gV gm614 gm615 gm616 gm1 gm617) rfl rfl rfl ⟨rfl, hdy_BL_step⟩ ⟨Nat.le_of_ble_eq_true rfl, Nat.le_of_ble_eq_true rfl⟩) C_BL.1 kbl hK hZ hP hS hA rfl hl.1 rfl (Nat.le_of_ble_eq_true rfl) d_LW_step_4 ⟨Nat.le_of_ble_eq_true rfl, Nat.le_of_ble_eq_true rfl⟩ htab rfl (by decide) (hG _ gm613) (fun x9 H locs hP hS => ?_)
  refine lv_astore_n (lv' := [(3, .ref x9), (0, .ref bl), (1, .int b), (2, .ref out)]) hx hb d_LW_step_12 rfl hl (by decide) rfl (fun ls hl => ?_)
  refine lv_iconst (v := 1) hx hb d_LW_step_13 (by decide) ?_
  exact fh_iret hx hb hr hlocks (Nat.le_of_ble_eq_true rfl) (Nat.le_of_ble_eq_true rfl) hP hS ⟨rfl, rfl⟩ d_LW_step_14

set_option maxHeartbeats 800000 in
set_option maxRecDepth 100000 in
theorem c_LW_policy (l : Launch) (E : fh_E) (h : fh_H) (bl med : Nat) (S : mS) (t : Nat) (hS0 : ALy E h bl med S) (hI : Inv S t) (out : Nat) (fo : Nat → Int64) (ho : h out = some (.inl (fh_cJ E, 1, .inr (.inl fo)))) (hom : out ≠ med) (n : Nat) (hn : n < 5) : fh_Met l y_LW_policy w_LW_policy ({ frames := 7, cells := 1, slots := 6, locals := 104 }) E [.ref bl, .int (nI n), .ref out] h (fun r h1 => r = some (.int 0) ∧ (∃ f2, h1 out = some (.inl (fh_cJ E, 1, .inr (.inl f2))) ∧ f2 0 = (S.wy).toInt64) ∧ ALy E h1 bl med (poM S (nI n)) ∧ ∀ b e, h b = some e → b ≠ med → b ≠ out → oth e → h1 b = some e) 1 6 := by
  refine lw_ofW (cc := b_LW_policy) (maxL := 4) (ret := (some .int)) (hh := [(0, 9, 12, 28)]) (by decide) rfl (Nat.le_of_ble_eq_true rfl) ?_
  intro p e s m below meth c A ls hx hb hr hml hown hts hlocks hname htab hadm hA hK hZ hP hS hl
  have hG : ∀ w ∈ G, w.before _ s = true := fun w hw => hts w (List.mem_cons_of_mem _ hw)
  have hown : s.vm.findClass R_LW = some m.cls := hown
  have hl : lv_has ls 4 [(0, .ref bl), (1, .int (nI n)), (2, .ref out)] := hl
  obtain ⟨dk, rqs, sv, hB9⟩ := hS0
  obtain ⟨bcs, qu, cs, kbl, -⟩ := hB9.cells
  have hS0 : ALy E h bl med S := ⟨dk, rqs, sv, hB9⟩
  refine lv_aload_n hx hb d_LW_policy_0 rfl (lv_at hl 2 rfl) ?_
  refine lv_iconst (v := 0) hx hb d_LW_policy_1 (by decide) ?_
  refine lv_aload_n hx hb d_LW_policy_2 rfl (lv_at hl 0 rfl) ?_
  refine lv_iload_n hx hb d_LW_policy_3 rfl (lv_at hl 1 rfl) ?_
  refine fh_callV (C := R_BL) (y := y_BL_policy) (bytes := b_BL_policy) (maxL := 3) (ret := (some .int)) (index := 30) (As := [.int (nI n)]) (rest := [.int 0, .ref out]) ⟨hx, hb, hml, hown, hG⟩ (m_policy l E h bl med S t hS0 hI n hn) (cwV 1 hG (gV gm641 gm642 gm643 gm1 gm644) rfl rfl rfl ⟨rfl, hdy_BL_policy⟩ ⟨Nat.le_of_ble_eq_true rfl, Nat.le_of_ble_eq_true rfl⟩) C_BL.1 kbl hK hZ hP hS hA rfl hl.1 rfl (Nat.le_of_ble_eq_true rfl) d_LW_policy_4 ⟨Nat.le_of_ble_eq_true rfl, Nat.le_of_ble_eq_true rfl⟩ (fun r h1 H locs hq9 hP hS => ?_)
  obtain ⟨rfl, hA9, hK9⟩ := hq9
  refine W.eq (g2 := F0 m 7 ls [.int (S.wy), .int 0, .ref out]) rfl ?_
  refine lv_i2l hx hb d_LW_policy_7 rfl ?_
  have ko := hK9 out _ ho hom trivial
  have ed1 := hZ.edn hP
  refine fh_last hx hb hK hP hS 1 ko rfl (vp_in_nI (n := 0) (N := 1) (by decide) (by decide)) d_LW_policy_8 (fun H locs hP hS => ?_)
  obtain ⟨h2, eh⟩ : ∃ z : fh_H, z = va_up h1 out (some (.inl (fh_cJ E, 1, .inr (.inl (vp_updL fo (nI 0).toNatClampNeg (S.wy).toInt64))))) := ⟨_, rfl⟩
  have hP : fh_P E.1 vwCl A h2 H := by rw [eh]; exact hP
  have ed2 := hZ.edn hP
  refine lv_goto (tgt := 15) hx hb d_LW_policy_9 (by decide) ?_
  refine lv_iconst (v := 0) hx hb d_LW_policy_15 (by decide) ?_
  exact fh_iret hx hb hr hlocks (Nat.le_of_ble_eq_true rfl) (Nat.le_of_ble_eq_true rfl) hP hS ⟨rfl, ⟨vp_updL fo (nI 0).toNatClampNeg (S.wy).toInt64, by rw [eh]; exact va_up_self _ _ _, by rw [nI_clamp (by decide)]; exact if_pos rfl⟩, hA9.keep ed1 ed2 (fun b e hb z => by rw [eh, va_up_ne _ _ (fun w => by rw [w, ko] at hb; cases hb; exact z.elim (fun u => hom (w.symm.trans u)) (fun u => u trivial))]; exact hb), fun b e hb n1 n2 w => by rw [eh, va_up_ne _ _ n2]; exact hK9 b e hb n1 w⟩ d_LW_policy_16

set_option maxHeartbeats 800000 in
set_option maxRecDepth 100000 in
theorem c_LW_policy_b (l : Launch) (E : fh_E) (h : fh_H) (bl med : Nat) (S : mS) (t : Nat) (hS0 : ALy E h bl med S) (hI : Inv S t) (out : Nat) (hfl : l.flags = pinnedFlags ++ [noTraceFlag]) (b : Int32) (hbad : b.toInt < 0 ∨ (5 : Int) ≤ b.toInt) : fh_Met l y_LW_policy w_LW_policy ({ frames := 7, cells := 1, slots := 6, locals := 104 }) E [.ref bl, .int b, .ref out] h (fun r h1 => r = some (.int 1) ∧ h1 = h) 1 6 := by
  refine lw_ofW (cc := b_LW_policy) (maxL := 4) (ret := (some .int)) (hh := [(0, 9, 12, 28)]) (by decide) rfl (Nat.le_of_ble_eq_true rfl) ?_
  intro p e s m below meth c A ls hx hb hr hml hown hts hlocks hname htab hadm hA hK hZ hP hS hl
  have hG : ∀ w ∈ G, w.before _ s = true := fun w hw => hts w (List.mem_cons_of_mem _ hw)
  have hown : s.vm.findClass R_LW = some m.cls := hown
  have hl : lv_has ls 4 [(0, .ref bl), (1, .int b), (2, .ref out)] := hl
  obtain ⟨dk, rqs, sv, hB9⟩ := hS0
  obtain ⟨bcs, qu, cs, kbl, -⟩ := hB9.cells
  have hS0 : ALy E h bl med S := ⟨dk, rqs, sv, hB9⟩
  refine lv_aload_n hx hb d_LW_policy_0 rfl (lv_at hl 2 rfl) ?_
  refine lv_iconst (v := 0) hx hb d_LW_policy_1 (by decide) ?_
  refine lv_aload_n hx hb d_LW_policy_2 rfl (lv_at hl 0 rfl) ?_
  refine lv_iload_n hx hb d_LW_policy_3 rfl (lv_at hl 1 rfl) ?_
  refine lw_callV1 (C := R_BL) (y := y_BL_policy) (bytes := b_BL_policy) (maxL := 3) (ret := (some .int)) (index := 30) (As := [.int b]) (rest := [.int 0, .ref out]) ⟨hx, hb, hml, hown, hG⟩ (t_BL_policy l E h hfl bl b hbad) (cwV 1 hG (gV gm641 gm642 gm643 gm1 gm644) rfl rfl rfl ⟨rfl, hdy_BL_policy⟩ ⟨Nat.le_of_ble_eq_true rfl, Nat.le_of_ble_eq_true rfl⟩) C_BL.1 kbl hK hZ hP hS hA rfl hl.1 rfl (Nat.le_of_ble_eq_true rfl) d_LW_policy_4 ⟨Nat.le_of_ble_eq_true rfl, Nat.le_of_ble_eq_true rfl⟩ htab rfl (by decide) (hG _ gm613) (fun x9 H locs hP hS => ?_)
  refine lv_astore_n (lv' := [(3, .ref x9), (0, .ref bl), (1, .int b), (2, .ref out)]) hx hb d_LW_policy_12 rfl hl (by decide) rfl (fun ls hl => ?_)
  refine lv_iconst (v := 1) hx hb d_LW_policy_13 (by decide) ?_
  exact fh_iret hx hb hr hlocks (Nat.le_of_ble_eq_true rfl) (Nat.le_of_ble_eq_true rfl) hP hS ⟨rfl, rfl⟩ d_LW_policy_14

set_option maxHeartbeats 800000 in
set_option maxRecDepth 100000 in
theorem c_LW_newest (l : Launch) (E : fh_E) (h : fh_H) (bl med : Nat) (S : mS) (t : Nat) (hS0 : ALy E h bl med S) (hI : Inv S t) (out : Nat) (fo : Nat → Int64) (ho : h out = some (.inl (fh_cJ E, 1, .inr (.inl fo)))) (hom : out ≠ med) (n : Nat) (hn : n < 256)  : fh_Met l y_LW_newest w_LW_newest ({ frames := 8, cells := 1, slots := 6, locals := 173 }) E [.ref bl, .int (nI n), .ref out] h (fun r h1 => r = some (.int 0) ∧ (∃ f2, h1 out = some (.inl (fh_cJ E, 1, .inr (.inl f2))) ∧ f2 0 = (newM S (nI n)).toInt64) ∧ ALy E h1 bl med (S) ∧ ∀ b e, h b = some e → b ≠ med → b ≠ out → oth e → h1 b = some e) 1 6 := by
  refine lw_ofW (cc := b_LW_newest) (maxL := 4) (ret := (some .int)) (hh := [(0, 9, 12, 13)]) (by decide) rfl (Nat.le_of_ble_eq_true rfl) ?_
  intro p e s m below meth c A ls hx hb hr hml hown hts hlocks hname htab hadm hA hK hZ hP hS hl
  have hG : ∀ w ∈ G, w.before _ s = true := fun w hw => hts w (List.mem_cons_of_mem _ hw)
  have hown : s.vm.findClass R_LW = some m.cls := hown
  have hl : lv_has ls 4 [(0, .ref bl), (1, .int (nI n)), (2, .ref out)] := hl
  obtain ⟨dk, rqs, sv, hB9⟩ := hS0
  obtain ⟨bcs, qu, cs, kbl, -⟩ := hB9.cells
  have hS0 : ALy E h bl med S := ⟨dk, rqs, sv, hB9⟩
  refine lv_aload_n hx hb d_LW_newest_0 rfl (lv_at hl 2 rfl) ?_
  refine lv_iconst (v := 0) hx hb d_LW_newest_1 (by decide) ?_
  refine lv_aload_n hx hb d_LW_newest_2 rfl (lv_at hl 0 rfl) ?_
  refine lv_iload_n hx hb d_LW_newest_3 rfl (lv_at hl 1 rfl) ?_
  refine fh_callV (C := R_BL) (y := y_BL_newest) (bytes := b_BL_newest) (maxL := 2) (ret := (some .int)) (index := 33) (As := [.int (nI n)]) (rest := [.int 0, .ref out]) ⟨hx, hb, hml, hown, hG⟩ (m_newest l E h bl med S t hS0 hI n hn) (cwV 1 hG (gV gm649 gm650 gm651 gm1 gm652) rfl rfl rfl ⟨rfl, hdy_BL_newest⟩ ⟨Nat.le_of_ble_eq_true rfl, Nat.le_of_ble_eq_true rfl⟩) C_BL.1 kbl hK hZ hP hS hA rfl hl.1 rfl (Nat.le_of_ble_eq_true rfl) d_LW_newest_4 ⟨Nat.le_of_ble_eq_true rfl, Nat.le_of_ble_eq_true rfl⟩ (fun r h1 H locs hq9 hP hS => ?_)
  obtain ⟨rfl, hA9, hK9⟩ := hq9
  refine W.eq (g2 := F0 m 7 ls [.int (newM S (nI n)), .int 0, .ref out]) rfl ?_
  refine lv_i2l hx hb d_LW_newest_7 rfl ?_
  have ko := hK9 out _ ho hom trivial
  have ed1 := hZ.edn hP
  refine fh_last hx hb hK hP hS 1 ko rfl (vp_in_nI (n := 0) (N := 1) (by decide) (by decide)) d_LW_newest_8 (fun H locs hP hS => ?_)
  obtain ⟨h2, eh⟩ : ∃ z : fh_H, z = va_up h1 out (some (.inl (fh_cJ E, 1, .inr (.inl (vp_updL fo (nI 0).toNatClampNeg (newM S (nI n)).toInt64))))) := ⟨_, rfl⟩
  have hP : fh_P E.1 vwCl A h2 H := by rw [eh]; exact hP
  have ed2 := hZ.edn hP
  refine lv_goto (tgt := 15) hx hb d_LW_newest_9 (by decide) ?_
  refine lv_iconst (v := 0) hx hb d_LW_newest_15 (by decide) ?_
  exact fh_iret hx hb hr hlocks (Nat.le_of_ble_eq_true rfl) (Nat.le_of_ble_eq_true rfl) hP hS ⟨rfl, ⟨vp_updL fo (nI 0).toNatClampNeg (newM S (nI n)).toInt64, by rw [eh]; exact va_up_self _ _ _, by rw [nI_clamp (by decide)]; exact if_pos rfl⟩, hA9.keep ed1 ed2 (fun b e hb z => by rw [eh, va_up_ne _ _ (fun w => by rw [w, ko] at hb; cases hb; exact z.elim (fun u => hom (w.symm.trans u)) (fun u => u trivial))]; exact hb), fun b e hb n1 n2 w => by rw [eh, va_up_ne _ _ n2]; exact hK9 b e hb n1 w⟩ d_LW_newest_16

set_option maxHeartbeats 800000 in
set_option maxRecDepth 100000 in
theorem c_LW_newest_b (l : Launch) (E : fh_E) (h : fh_H) (bl med : Nat) (S : mS) (t : Nat) (hS0 : ALy E h bl med S) (hI : Inv S t) (out : Nat) (hfl : l.flags = pinnedFlags ++ [noTraceFlag]) (b : Int32) (hbad : b.toInt < 0 ∨ (256 : Int) ≤ b.toInt)  : fh_Met l y_LW_newest w_LW_newest ({ frames := 8, cells := 1, slots := 6, locals := 173 }) E [.ref bl, .int b, .ref out] h (fun r h1 => r = some (.int 1) ∧ h1 = h) 1 6 := by
  refine lw_ofW (cc := b_LW_newest) (maxL := 4) (ret := (some .int)) (hh := [(0, 9, 12, 13)]) (by decide) rfl (Nat.le_of_ble_eq_true rfl) ?_
  intro p e s m below meth c A ls hx hb hr hml hown hts hlocks hname htab hadm hA hK hZ hP hS hl
  have hG : ∀ w ∈ G, w.before _ s = true := fun w hw => hts w (List.mem_cons_of_mem _ hw)
  have hown : s.vm.findClass R_LW = some m.cls := hown
  have hl : lv_has ls 4 [(0, .ref bl), (1, .int b), (2, .ref out)] := hl
  obtain ⟨dk, rqs, sv, hB9⟩ := hS0
  obtain ⟨bcs, qu, cs, kbl, -⟩ := hB9.cells
  have hS0 : ALy E h bl med S := ⟨dk, rqs, sv, hB9⟩
  refine lv_aload_n hx hb d_LW_newest_0 rfl (lv_at hl 2 rfl) ?_
  refine lv_iconst (v := 0) hx hb d_LW_newest_1 (by decide) ?_
  refine lv_aload_n hx hb d_LW_newest_2 rfl (lv_at hl 0 rfl) ?_
  refine lv_iload_n hx hb d_LW_newest_3 rfl (lv_at hl 1 rfl) ?_
  refine lw_callV1 (C := R_BL) (y := y_BL_newest) (bytes := b_BL_newest) (maxL := 2) (ret := (some .int)) (index := 33) (As := [.int b]) (rest := [.int 0, .ref out]) ⟨hx, hb, hml, hown, hG⟩ (t_BL_newest_b l E h hfl bl b hbad) (cwV 1 hG (gV gm649 gm650 gm651 gm1 gm652) rfl rfl rfl ⟨rfl, hdy_BL_newest⟩ ⟨Nat.le_of_ble_eq_true rfl, Nat.le_of_ble_eq_true rfl⟩) C_BL.1 kbl hK hZ hP hS hA rfl hl.1 rfl (Nat.le_of_ble_eq_true rfl) d_LW_newest_4 ⟨Nat.le_of_ble_eq_true rfl, Nat.le_of_ble_eq_true rfl⟩ htab rfl (by decide) (hG _ gm432) (fun x9 H locs hP hS => ?_)
  refine lv_astore_n (lv' := [(3, .ref x9), (0, .ref bl), (1, .int b), (2, .ref out)]) hx hb d_LW_newest_12 rfl hl (by decide) rfl (fun ls hl => ?_)
  refine lv_iconst (v := 1) hx hb d_LW_newest_13 (by decide) ?_
  exact fh_iret hx hb hr hlocks (Nat.le_of_ble_eq_true rfl) (Nat.le_of_ble_eq_true rfl) hP hS ⟨rfl, rfl⟩ d_LW_newest_14

set_option maxHeartbeats 800000 in
set_option maxRecDepth 100000 in
theorem c_LW_media (l : Launch) (E : fh_E) (h : fh_H) (bl med : Nat) (S : mS) (t : Nat) (hS0 : ALy E h bl med S) (hI : Inv S t) (out : Nat) (fo : Nat → Int64) (ho : h out = some (.inl (fh_cJ E, 1, .inr (.inl fo)))) (hom : out ≠ med) (n : Nat) (hn : n < 256)  : fh_Met l y_LW_media w_LW_media ({ frames := 8, cells := 1, slots := 6, locals := 123 }) E [.ref bl, .int (nI n), .ref out] h (fun r h1 => r = some (.int 0) ∧ (∃ f2, h1 out = some (.inl (fh_cJ E, 1, .inr (.inl f2))) ∧ f2 0 = (S.mf n).toInt64) ∧ ALy E h1 bl med (S) ∧ ∀ b e, h b = some e → b ≠ med → b ≠ out → oth e → h1 b = some e) 1 6 := by
  refine lw_ofW (cc := b_LW_media) (maxL := 4) (ret := (some .int)) (hh := [(0, 9, 12, 13)]) (by decide) rfl (Nat.le_of_ble_eq_true rfl) ?_
  intro p e s m below meth c A ls hx hb hr hml hown hts hlocks hname htab hadm hA hK hZ hP hS hl
  have hG : ∀ w ∈ G, w.before _ s = true := fun w hw => hts w (List.mem_cons_of_mem _ hw)
  have hown : s.vm.findClass R_LW = some m.cls := hown
  have hl : lv_has ls 4 [(0, .ref bl), (1, .int (nI n)), (2, .ref out)] := hl
  obtain ⟨dk, rqs, sv, hB9⟩ := hS0
  obtain ⟨bcs, qu, cs, kbl, -⟩ := hB9.cells
  have hS0 : ALy E h bl med S := ⟨dk, rqs, sv, hB9⟩
  refine lv_aload_n hx hb d_LW_media_0 rfl (lv_at hl 2 rfl) ?_
  refine lv_iconst (v := 0) hx hb d_LW_media_1 (by decide) ?_
  refine lv_aload_n hx hb d_LW_media_2 rfl (lv_at hl 0 rfl) ?_
  refine lv_iload_n hx hb d_LW_media_3 rfl (lv_at hl 1 rfl) ?_
  refine fh_callV (C := R_BL) (y := y_BL_media) (bytes := b_BL_media) (maxL := 2) (ret := (some .int)) (index := 36) (As := [.int (nI n)]) (rest := [.int 0, .ref out]) ⟨hx, hb, hml, hown, hG⟩ (m_media l E h bl med S t hS0 hI n hn) (cwV 1 hG (gV gm656 gm657 gm658 gm1 gm659) rfl rfl rfl ⟨rfl, hdy_BL_media⟩ ⟨Nat.le_of_ble_eq_true rfl, Nat.le_of_ble_eq_true rfl⟩) C_BL.1 kbl hK hZ hP hS hA rfl hl.1 rfl (Nat.le_of_ble_eq_true rfl) d_LW_media_4 ⟨Nat.le_of_ble_eq_true rfl, Nat.le_of_ble_eq_true rfl⟩ (fun r h1 H locs hq9 hP hS => ?_)
  obtain ⟨rfl, hA9, hK9⟩ := hq9
  refine W.eq (g2 := F0 m 7 ls [.int (S.mf n), .int 0, .ref out]) rfl ?_
  refine lv_i2l hx hb d_LW_media_7 rfl ?_
  have ko := hK9 out _ ho hom trivial
  have ed1 := hZ.edn hP
  refine fh_last hx hb hK hP hS 1 ko rfl (vp_in_nI (n := 0) (N := 1) (by decide) (by decide)) d_LW_media_8 (fun H locs hP hS => ?_)
  obtain ⟨h2, eh⟩ : ∃ z : fh_H, z = va_up h1 out (some (.inl (fh_cJ E, 1, .inr (.inl (vp_updL fo (nI 0).toNatClampNeg (S.mf n).toInt64))))) := ⟨_, rfl⟩
  have hP : fh_P E.1 vwCl A h2 H := by rw [eh]; exact hP
  have ed2 := hZ.edn hP
  refine lv_goto (tgt := 15) hx hb d_LW_media_9 (by decide) ?_
  refine lv_iconst (v := 0) hx hb d_LW_media_15 (by decide) ?_
  exact fh_iret hx hb hr hlocks (Nat.le_of_ble_eq_true rfl) (Nat.le_of_ble_eq_true rfl) hP hS ⟨rfl, ⟨vp_updL fo (nI 0).toNatClampNeg (S.mf n).toInt64, by rw [eh]; exact va_up_self _ _ _, by rw [nI_clamp (by decide)]; exact if_pos rfl⟩, hA9.keep ed1 ed2 (fun b e hb z => by rw [eh, va_up_ne _ _ (fun w => by rw [w, ko] at hb; cases hb; exact z.elim (fun u => hom (w.symm.trans u)) (fun u => u trivial))]; exact hb), fun b e hb n1 n2 w => by rw [eh, va_up_ne _ _ n2]; exact hK9 b e hb n1 w⟩ d_LW_media_16

set_option maxHeartbeats 800000 in
set_option maxRecDepth 100000 in
theorem c_LW_media_b (l : Launch) (E : fh_E) (h : fh_H) (bl med : Nat) (S : mS) (t : Nat) (hS0 : ALy E h bl med S) (hI : Inv S t) (out : Nat) (hfl : l.flags = pinnedFlags ++ [noTraceFlag]) (b : Int32) (hbad : b.toInt < 0 ∨ (256 : Int) ≤ b.toInt)  : fh_Met l y_LW_media w_LW_media ({ frames := 8, cells := 1, slots := 6, locals := 123 }) E [.ref bl, .int b, .ref out] h (fun r h1 => r = some (.int 1) ∧ h1 = h) 1 6 := by
  refine lw_ofW (cc := b_LW_media) (maxL := 4) (ret := (some .int)) (hh := [(0, 9, 12, 13)]) (by decide) rfl (Nat.le_of_ble_eq_true rfl) ?_
  intro p e s m below meth c A ls hx hb hr hml hown hts hlocks hname htab hadm hA hK hZ hP hS hl
  have hG : ∀ w ∈ G, w.before _ s = true := fun w hw => hts w (List.mem_cons_of_mem _ hw)
  have hown : s.vm.findClass R_LW = some m.cls := hown
  have hl : lv_has ls 4 [(0, .ref bl), (1, .int b), (2, .ref out)] := hl
  obtain ⟨dk, rqs, sv, hB9⟩ := hS0
  obtain ⟨bcs, qu, cs, kbl, -⟩ := hB9.cells
  have hS0 : ALy E h bl med S := ⟨dk, rqs, sv, hB9⟩
  refine lv_aload_n hx hb d_LW_media_0 rfl (lv_at hl 2 rfl) ?_
  refine lv_iconst (v := 0) hx hb d_LW_media_1 (by decide) ?_
  refine lv_aload_n hx hb d_LW_media_2 rfl (lv_at hl 0 rfl) ?_
  refine lv_iload_n hx hb d_LW_media_3 rfl (lv_at hl 1 rfl) ?_
  refine lw_callV1 (C := R_BL) (y := y_BL_media) (bytes := b_BL_media) (maxL := 2) (ret := (some .int)) (index := 36) (As := [.int b]) (rest := [.int 0, .ref out]) ⟨hx, hb, hml, hown, hG⟩ (t_BL_media_b l E h hfl bl b hbad) (cwV 1 hG (gV gm656 gm657 gm658 gm1 gm659) rfl rfl rfl ⟨rfl, hdy_BL_media⟩ ⟨Nat.le_of_ble_eq_true rfl, Nat.le_of_ble_eq_true rfl⟩) C_BL.1 kbl hK hZ hP hS hA rfl hl.1 rfl (Nat.le_of_ble_eq_true rfl) d_LW_media_4 ⟨Nat.le_of_ble_eq_true rfl, Nat.le_of_ble_eq_true rfl⟩ htab rfl (by decide) (hG _ gm432) (fun x9 H locs hP hS => ?_)
  refine lv_astore_n (lv' := [(3, .ref x9), (0, .ref bl), (1, .int b), (2, .ref out)]) hx hb d_LW_media_12 rfl hl (by decide) rfl (fun ls hl => ?_)
  refine lv_iconst (v := 1) hx hb d_LW_media_13 (by decide) ?_
  exact fh_iret hx hb hr hlocks (Nat.le_of_ble_eq_true rfl) (Nat.le_of_ble_eq_true rfl) hP hS ⟨rfl, rfl⟩ d_LW_media_14

set_option maxHeartbeats 800000 in
set_option maxRecDepth 100000 in
theorem c_LW_buffer (l : Launch) (E : fh_E) (h : fh_H) (bl med : Nat) (S : mS) (t : Nat) (hS0 : ALy E h bl med S) (hI : Inv S t) (out : Nat) (fo : Nat → Int64) (ho : h out = some (.inl (fh_cJ E, 1, .inr (.inl fo)))) (hom : out ≠ med) (n : Nat) (hn : n < 256)  : fh_Met l y_LW_buffer w_LW_buffer ({ frames := 8, cells := 1, slots := 6, locals := 124 }) E [.ref bl, .int (nI n), .ref out] h (fun r h1 => r = some (.int 0) ∧ (∃ f2, h1 out = some (.inl (fh_cJ E, 1, .inr (.inl f2))) ∧ f2 0 = (bfV S (nI n)).toInt64) ∧ ALy E h1 bl med (S) ∧ ∀ b e, h b = some e → b ≠ med → b ≠ out → oth e → h1 b = some e) 1 6 := by
  refine lw_ofW (cc := b_LW_buffer) (maxL := 4) (ret := (some .int)) (hh := [(0, 9, 12, 13)]) (by decide) rfl (Nat.le_of_ble_eq_true rfl) ?_
  intro p e s m below meth c A ls hx hb hr hml hown hts hlocks hname htab hadm hA hK hZ hP hS hl
  have hG : ∀ w ∈ G, w.before _ s = true := fun w hw => hts w (List.mem_cons_of_mem _ hw)
  have hown : s.vm.findClass R_LW = some m.cls := hown
  have hl : lv_has ls 4 [(0, .ref bl), (1, .int (nI n)), (2, .ref out)] := hl
  obtain ⟨dk, rqs, sv, hB9⟩ := hS0
  obtain ⟨bcs, qu, cs, kbl, -⟩ := hB9.cells
  have hS0 : ALy E h bl med S := ⟨dk, rqs, sv, hB9⟩
  refine lv_aload_n hx hb d_LW_buffer_0 rfl (lv_at hl 2 rfl) ?_
  refine lv_iconst (v := 0) hx hb d_LW_buffer_1 (by decide) ?_
  refine lv_aload_n hx hb d_LW_buffer_2 rfl (lv_at hl 0 rfl) ?_
  refine lv_iload_n hx hb d_LW_buffer_3 rfl (lv_at hl 1 rfl) ?_
  refine fh_callV (C := R_BL) (y := y_BL_buffer) (bytes := b_BL_buffer) (maxL := 3) (ret := (some .int)) (index := 39) (As := [.int (nI n)]) (rest := [.int 0, .ref out]) ⟨hx, hb, hml, hown, hG⟩ ((m_buffer l E h bl med S t hS0 hI n hn).mono (post' := fun r h1 => r = some (.int (bfV S (nI n))) ∧ ALy E h1 bl med S ∧ KB h h1 med) (fun _ _ z => z)) (cwV 1 hG (gV gm663 gm664 gm665 gm1 gm666) rfl rfl rfl ⟨rfl, hdy_BL_buffer⟩ ⟨Nat.le_of_ble_eq_true rfl, Nat.le_of_ble_eq_true rfl⟩) C_BL.1 kbl hK hZ hP hS hA rfl hl.1 rfl (Nat.le_of_ble_eq_true rfl) d_LW_buffer_4 ⟨Nat.le_of_ble_eq_true rfl, Nat.le_of_ble_eq_true rfl⟩ (fun r h1 H locs hq9 hP hS => ?_)
  obtain ⟨rfl, hA9, hK9⟩ := hq9
  refine W.eq (g2 := F0 m 7 ls [.int (bfV S (nI n)), .int 0, .ref out]) rfl ?_
  refine lv_i2l hx hb d_LW_buffer_7 rfl ?_
  have ko := hK9 out _ ho hom trivial
  have ed1 := hZ.edn hP
  refine fh_last hx hb hK hP hS 1 ko rfl (vp_in_nI (n := 0) (N := 1) (by decide) (by decide)) d_LW_buffer_8 (fun H locs hP hS => ?_)
  obtain ⟨h2, eh⟩ : ∃ z : fh_H, z = va_up h1 out (some (.inl (fh_cJ E, 1, .inr (.inl (vp_updL fo (nI 0).toNatClampNeg (bfV S (nI n)).toInt64))))) := ⟨_, rfl⟩
  have hP : fh_P E.1 vwCl A h2 H := by rw [eh]; exact hP
  have ed2 := hZ.edn hP
  refine lv_goto (tgt := 15) hx hb d_LW_buffer_9 (by decide) ?_
  refine lv_iconst (v := 0) hx hb d_LW_buffer_15 (by decide) ?_
  exact fh_iret hx hb hr hlocks (Nat.le_of_ble_eq_true rfl) (Nat.le_of_ble_eq_true rfl) hP hS ⟨rfl, ⟨vp_updL fo (nI 0).toNatClampNeg (bfV S (nI n)).toInt64, by rw [eh]; exact va_up_self _ _ _, by rw [nI_clamp (by decide)]; exact if_pos rfl⟩, hA9.keep ed1 ed2 (fun b e hb z => by rw [eh, va_up_ne _ _ (fun w => by rw [w, ko] at hb; cases hb; exact z.elim (fun u => hom (w.symm.trans u)) (fun u => u trivial))]; exact hb), fun b e hb n1 n2 w => by rw [eh, va_up_ne _ _ n2]; exact hK9 b e hb n1 w⟩ d_LW_buffer_16

set_option maxHeartbeats 800000 in
set_option maxRecDepth 100000 in
theorem c_LW_buffer_b (l : Launch) (E : fh_E) (h : fh_H) (bl med : Nat) (S : mS) (t : Nat) (hS0 : ALy E h bl med S) (hI : Inv S t) (out : Nat) (hfl : l.flags = pinnedFlags ++ [noTraceFlag]) (b : Int32) (hbad : b.toInt < 0 ∨ (256 : Int) ≤ b.toInt)  : fh_Met l y_LW_buffer w_LW_buffer ({ frames := 8, cells := 1, slots := 6, locals := 124 }) E [.ref bl, .int b, .ref out] h (fun r h1 => r = some (.int 1) ∧ h1 = h) 1 6 := by
  refine lw_ofW (cc := b_LW_buffer) (maxL := 4) (ret := (some .int)) (hh := [(0, 9, 12, 13)]) (by decide) rfl (Nat.le_of_ble_eq_true rfl) ?_
  intro p e s m below meth c A ls hx hb hr hml hown hts hlocks hname htab hadm hA hK hZ hP hS hl
  have hG : ∀ w ∈ G, w.before _ s = true := fun w hw => hts w (List.mem_cons_of_mem _ hw)
  have hown : s.vm.findClass R_LW = some m.cls := hown
  have hl : lv_has ls 4 [(0, .ref bl), (1, .int b), (2, .ref out)] := hl
  obtain ⟨dk, rqs, sv, hB9⟩ := hS0
  obtain ⟨bcs, qu, cs, kbl, -⟩ := hB9.cells
  have hS0 : ALy E h bl med S := ⟨dk, rqs, sv, hB9⟩
  refine lv_aload_n hx hb d_LW_buffer_0 rfl (lv_at hl 2 rfl) ?_
  refine lv_iconst (v := 0) hx hb d_LW_buffer_1 (by decide) ?_
  refine lv_aload_n hx hb d_LW_buffer_2 rfl (lv_at hl 0 rfl) ?_
  refine lv_iload_n hx hb d_LW_buffer_3 rfl (lv_at hl 1 rfl) ?_
  refine lw_callV1 (C := R_BL) (y := y_BL_buffer) (bytes := b_BL_buffer) (maxL := 3) (ret := (some .int)) (index := 39) (As := [.int b]) (rest := [.int 0, .ref out]) ⟨hx, hb, hml, hown, hG⟩ (t_BL_buffer_b l E h hfl bl b hbad) (cwV 1 hG (gV gm663 gm664 gm665 gm1 gm666) rfl rfl rfl ⟨rfl, hdy_BL_buffer⟩ ⟨Nat.le_of_ble_eq_true rfl, Nat.le_of_ble_eq_true rfl⟩) C_BL.1 kbl hK hZ hP hS hA rfl hl.1 rfl (Nat.le_of_ble_eq_true rfl) d_LW_buffer_4 ⟨Nat.le_of_ble_eq_true rfl, Nat.le_of_ble_eq_true rfl⟩ htab rfl (by decide) (hG _ gm432) (fun x9 H locs hP hS => ?_)
  refine lv_astore_n (lv' := [(3, .ref x9), (0, .ref bl), (1, .int b), (2, .ref out)]) hx hb d_LW_buffer_12 rfl hl (by decide) rfl (fun ls hl => ?_)
  refine lv_iconst (v := 1) hx hb d_LW_buffer_13 (by decide) ?_
  exact fh_iret hx hb hr hlocks (Nat.le_of_ble_eq_true rfl) (Nat.le_of_ble_eq_true rfl) hP hS ⟨rfl, rfl⟩ d_LW_buffer_14

