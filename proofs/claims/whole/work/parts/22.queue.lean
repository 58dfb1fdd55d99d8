/-! THE QUEUE. -/
abbrev mQ : Type := Int32 × Int32 × Int32 × Int32 × Int32
def rdy (q : List mQ) (k : Nat) : Bool := match q[k]? with
  | none => false
  | some r => (k == 0 || r.2.1 != 2) && (q.take k).all (fun s => s.2.1 != 2 && s.2.2.1 != r.2.2.1)
theorem rdy_at {rqs : List tQ} {k : Nat} {r : tQ} (h : rqs[k]? = some r) : rdy (rqs.map (·.2)) k = ((k == 0 || r.2.2.1 != 2) && ((rqs.map (·.2)).take k).all (fun s => s.2.1 != 2 && s.2.2.1 != r.2.2.2.1)) := by
  unfold rdy
  rw [List.getElem?_map, h]; rfl
theorem tk_all {α : Type} {p : α → Bool} {xs : List α} {i : Nat} {c : α} (h : xs[i]? = some c) (hi : (xs.take i).all p = true) (hp : p c = true) : (xs.take (i + 1)).all p = true := by
  rw [List.take_add_one, h, List.all_append, hi]
  simp [hp]
theorem tk_nall {α : Type} {p : α → Bool} {xs : List α} {i k : Nat} {c : α} (h : xs[i]? = some c) (hk : i < k) (hp : p c = false) : (xs.take k).all p = false := by
  rw [List.all_eq_false]
  refine ⟨c, ?_, by rw [hp]; decide⟩
  exact List.mem_of_getElem? (i := i) (by rw [List.getElem?_take_of_lt hk]; exact h)
def absR (b : Int32) : List tQ → Option tQ
  | [] => none
  | r :: t => if r.2.2.1 = 2 then none else if r.2.2.2.1 = b then (if r.2.2.1 = 1 then some r else none) else absR b t
theorem tk_rev {α : Type} {xs : List α} {n : Nat} {c : α} (h : xs[n]? = some c) : (xs.take (n + 1)).reverse = c :: (xs.take n).reverse := by
  rw [List.take_add_one, h]
  simp
theorem li_m1 (x : Int32) : x + (-1) = x - 1 := by rw [Int32.sub_eq_add_neg]
theorem li_neg0 : nI 0 - 1 < 0 := by decide
theorem rq_at {rqs : List tQ} {i : Nat} {c : tQ} (h : rqs[i]? = some c) : (rqs.map (·.2))[i]? = some c.2 := by rw [List.getElem?_map, h]; rfl

set_option maxHeartbeats 4000000 in
set_option maxRecDepth 100000 in
theorem c_RQ_init (l : Launch) (E : fh_E) (h : fh_H) (q : Nat) (n k b v md : Int32) (v0 v1 v2 v3 v4 v5 : Value) (ha : h q = some (.inr (3, [v0, v1, v2, v3, v4, v5]))) : fh_Met l y_RQ_init w_RQ_init ({ frames := 1, cells := 0, slots := 0, locals := 12 }) E [.ref q, .int n, .int k, .int b, .int v, .int md] h (fun r h1 => r = none ∧ h1 = va_up h q (some (.inr (3, [.int n, .int k, .int b, .int md, .int v, v5])))) 0 0 := by
  refine fh_ofW (cc := b_RQ_init) (maxL := 6) (ret := none) (by decide) rfl (Nat.le_of_ble_eq_true rfl) ?_
  intro p e s m below meth c A ls hx hb hr hml hown hts hlocks hname hnoh hadm hA hK hZ hP hS hl
  have hG : ∀ w ∈ G, w.before _ s = true := fun w hw => hts w (List.mem_cons_of_mem _ hw)
  have hown : s.vm.findClass R_RQ = some m.cls := hown
  have hl : lv_has ls 6 [(0, .ref q), (1, .int n), (2, .int k), (3, .int b), (4, .int v), (5, .int md)] := hl
  refine lv_aload_n hx hb d_RQ_init_0 rfl (lv_at hl 0 rfl) ?_
  refine W.objInit hx hb hown (hG _ gm551) (hG _ gm29) (hG _ gm30) rfl (by rw [hml]; exact hl.1) rfl d_RQ_init_1 (Nat.le_of_ble_eq_true rfl) (Nat.le_of_ble_eq_true rfl) ?_
  refine W.eq (g2 := F0 m 4 ls []) rfl ?_
  refine lv_aload_n hx hb d_RQ_init_4 rfl (lv_at hl 0 rfl) ?_
  refine lv_iload_n hx hb d_RQ_init_5 rfl (lv_at hl 1 rfl) ?_
  refine fh_putF hx hb hG C_RQ iG_RQ hown hK hP hS ha 0 (by decide) gm552 rfl hname rfl (v := .int n) rfl rfl (Nat.le_of_ble_eq_true rfl) d_RQ_init_6 (fun H locs hP hS => ?_)
  obtain ⟨h_1, eh_2⟩ : ∃ z : fh_H, z = va_up h q (some (.inr (3, [.int n, v1, v2, v3, v4, v5]))) := ⟨_, rfl⟩
  have hP : fh_P E.1 vwCl A h_1 H := by rw [eh_2]; exact hP
  have k_3 : h_1 q = some (.inr (3, [.int n, v1, v2, v3, v4, v5])) := by rw [eh_2]; exact va_up_self _ _ _
  refine lv_aload_n hx hb d_RQ_init_9 rfl (lv_at hl 0 rfl) ?_
  refine lv_iload_n hx hb d_RQ_init_10 rfl (lv_at hl 2 rfl) ?_
  refine fh_putF hx hb hG C_RQ iG_RQ hown hK hP hS k_3 1 (by decide) gm555 rfl hname rfl (v := .int k) rfl rfl (Nat.le_of_ble_eq_true rfl) d_RQ_init_11 (fun H locs hP hS => ?_)
  obtain ⟨h_4, eh_5⟩ : ∃ z : fh_H, z = va_up h_1 q (some (.inr (3, [.int n, .int k, v2, v3, v4, v5]))) := ⟨_, rfl⟩
  have hP : fh_P E.1 vwCl A h_4 H := by rw [eh_5]; exact hP
  have k_6 : h_4 q = some (.inr (3, [.int n, .int k, v2, v3, v4, v5])) := by rw [eh_5]; exact va_up_self _ _ _
  refine lv_aload_n hx hb d_RQ_init_14 rfl (lv_at hl 0 rfl) ?_
  refine lv_iload_n hx hb d_RQ_init_15 rfl (lv_at hl 3 rfl) ?_
  refine fh_putF hx hb hG C_RQ iG_RQ hown hK hP hS k_6 2 (by decide) gm559 rfl hname rfl (v := .int b) rfl rfl (Nat.le_of_ble_eq_true rfl) d_RQ_init_16 (fun H locs hP hS => ?_)
  obtain ⟨h_7, eh_8⟩ : ∃ z : fh_H, z = va_up h_4 q (some (.inr (3, [.int n, .int k, .int b, v3, v4, v5]))) := ⟨_, rfl⟩
  have hP : fh_P E.1 vwCl A h_7 H := by rw [eh_8]; exact hP
  have k_9 : h_7 q = some (.inr (3, [.int n, .int k, .int b, v3, v4, v5])) := by rw [eh_8]; exact va_up_self _ _ _
  refine lv_aload_n hx hb d_RQ_init_19 rfl (lv_at hl 0 rfl) ?_
  refine lv_iload hx hb d_RQ_init_20 (lv_at hl 4 rfl) ?_
  refine fh_put hx hb hG C_RQ iG_RQ hown hK hP hS k_9 4 (by decide) gm566 rfl (v := .int v) rfl rfl (Nat.le_of_ble_eq_true rfl) d_RQ_init_22 (fun H locs hP hS => ?_)
  obtain ⟨h_10, eh_11⟩ : ∃ z : fh_H, z = va_up h_7 q (some (.inr (3, [.int n, .int k, .int b, v3, .int v, v5]))) := ⟨_, rfl⟩
  have hP : fh_P E.1 vwCl A h_10 H := by rw [eh_11]; exact hP
  have k_12 : h_10 q = some (.inr (3, [.int n, .int k, .int b, v3, .int v, v5])) := by rw [eh_11]; exact va_up_self _ _ _
  refine lv_aload_n hx hb d_RQ_init_25 rfl (lv_at hl 0 rfl) ?_
  refine lv_iload hx hb d_RQ_init_26 (lv_at hl 5 rfl) ?_
  refine fh_putF hx hb hG C_RQ iG_RQ hown hK hP hS k_12 3 (by decide) gm563 rfl hname rfl (v := .int md) rfl rfl (Nat.le_of_ble_eq_true rfl) d_RQ_init_28 (fun H locs hP hS => ?_)
  obtain ⟨h_13, eh_14⟩ : ∃ z : fh_H, z = va_up h_10 q (some (.inr (3, [.int n, .int k, .int b, .int md, .int v, v5]))) := ⟨_, rfl⟩
  have hP : fh_P E.1 vwCl A h_13 H := by rw [eh_14]; exact hP
  have k_15 : h_13 q = some (.inr (3, [.int n, .int k, .int b, .int md, .int v, v5])) := by rw [eh_14]; exact va_up_self _ _ _
  exact fh_vret hx hb hr hlocks (Nat.le_of_ble_eq_true rfl) (Nat.le_of_ble_eq_true rfl) hP hS ⟨rfl, by rw [eh_14, eh_11, eh_8, eh_5, eh_2, bx_uu, bx_uu, bx_uu, bx_uu]⟩ d_RQ_init_31

set_option maxHeartbeats 4000000 in
set_option maxRecDepth 100000 in
theorem c_QU_init (l : Launch) (E : fh_E) (h : fh_H) (qu : Nat) (v0 : Value) (hc : h qu = some (.inr (4, [v0]))) : fh_Met l y_QU_init w_QU_init ({ frames := 4, cells := 1, slots := 3, locals := 72 }) E [.ref qu] h (fun r h1 => r = none ∧ ∃ al, QLs E h1 qu al (fh_ed E) [] ∧ h al = none ∧ ∀ b, b ≠ qu → b ≠ al → h1 b = h b) 1 3 := by
  refine fh_ofW (cc := b_QU_init) (maxL := 1) (ret := none) (by decide) rfl (Nat.le_of_ble_eq_true rfl) ?_
  intro p e s m below meth c A ls hx hb hr hml hown hts hlocks hname hnoh hadm hA hK hZ hP hS hl
  have hG : ∀ w ∈ G, w.before _ s = true := fun w hw => hts w (List.mem_cons_of_mem _ hw)
  have hown : s.vm.findClass R_QU = some m.cls := hown
  have hl : lv_has ls 1 [(0, .ref qu)] := hl
  refine lv_aload_n hx hb d_QU_init_0 rfl (lv_at hl 0 rfl) ?_
  refine W.objInit hx hb hown (hG _ gm78) (hG _ gm29) (hG _ gm30) rfl (by rw [hml]; exact hl.1) rfl d_QU_init_1 (Nat.le_of_ble_eq_true rfl) (Nat.le_of_ble_eq_true rfl) ?_
  refine W.eq (g2 := F0 m 4 ls []) rfl ?_
  refine lv_aload_n hx hb d_QU_init_4 rfl (lv_at hl 0 rfl) ?_
  refine fh_new hx hb hG C_AL iG_AL hown gm79 gm38 gm5 hK hP hS hA (fs := [.null, .int 0, .int 0]) (fun j hj => by rcases (show j = 0 ∨ j = 1 ∨ j = 2 by omega) with rfl | rfl | rfl <;> rfl) (Nat.le_of_ble_eq_true rfl) (Nat.le_of_ble_eq_true rfl) d_QU_init_5 (fun al H hf_1 hP hS => ?_)
  obtain ⟨h_2, eh_3⟩ : ∃ z : fh_H, z = va_up h al (some (.inr (0, [.null, .int 0, .int 0]))) := ⟨_, rfl⟩
  have hP : fh_P E.1 vwCl A h_2 H := by rw [eh_3]; exact hP
  have k_4 : h_2 qu = some (.inr (4, [v0])) := by rw [eh_3]; exact fh_up hc (fh_neF hc hf_1)
  have k_5 : h_2 al = some (.inr (0, [.null, .int 0, .int 0])) := by rw [eh_3]; exact va_up_self _ _ _
  refine lv_dup hx hb d_QU_init_8 rfl ?_
  refine fh_callI (b := al) (y := y_AL_init) (bytes := b_AL_init) (maxL := 1) (index := 11) (As := []) (rest := [.ref al, .ref qu]) ⟨hx, hb, hml, hown, hG⟩ (c_AL_init l E h_2 al .null (.int 0) k_5) (cwI 0 hG (gB gm41) rfl rfl rfl (hG _ gm5) (hG _ gm80) (hG _ gm40) rfl hdy_AL_init ⟨Nat.le_of_ble_eq_true rfl, Nat.le_of_ble_eq_true rfl⟩) hK hZ hP hS hA rfl hl.1 rfl (Nat.le_of_ble_eq_true rfl) d_QU_init_9 ⟨Nat.le_of_ble_eq_true rfl, Nat.le_of_ble_eq_true rfl⟩ (fun r h1 H locs hq9 hP hS => ?_)
  obtain ⟨rfl, g1, g2⟩ := hq9
  refine W.eq (g2 := F0 m 12 ls [.ref al, .ref qu]) rfl ?_
  have kc : h1 qu = some (.inr (4, [v0])) := (g2 qu (fh_neF hc hf_1)).trans k_4
  refine fh_putF hx hb hG C_QU iG_QU hown hK hP hS kc 0 (by decide) gm81 rfl hname rfl (v := .ref al) rfl rfl (Nat.le_of_ble_eq_true rfl) d_QU_init_12 (fun H locs hP hS => ?_)
  obtain ⟨h_6, eh_7⟩ : ∃ z : fh_H, z = va_up h1 qu (some (.inr (4, [.ref al]))) := ⟨_, rfl⟩
  have hP : fh_P E.1 vwCl A h_6 H := by rw [eh_7]; exact hP
  have k_8 : h_6 qu = some (.inr (4, [.ref al])) := by rw [eh_7]; exact va_up_self _ _ _
  refine fh_vret hx hb hr hlocks (Nat.le_of_ble_eq_true rfl) (Nat.le_of_ble_eq_true rfl) hP hS ⟨rfl, al, ⟨k_8, ?_, fun _ z => absurd z List.not_mem_nil⟩, hf_1, ?_⟩ d_QU_init_15
  · obtain ⟨md2, cap, f, k1, k2, k3, k4, k5⟩ := g1
    refine ⟨md2, cap, f, ?_, k2, k3, k4, ?_⟩
    · rw [eh_7]; exact (va_up_ne _ _ (fh_ne k1 kc (by decide))).trans k1
    · rcases k5 with k5 | ⟨k5, k6⟩
      · exact Or.inl k5
      · exact Or.inr ⟨k5, by rw [eh_7]; exact (va_up_ne _ _ (fh_neA k6 kc)).trans k6⟩
  · intro b z1 z2
    rw [eh_7, va_up_ne _ _ z1, g2 b z2, eh_3, va_up_ne _ _ z2]

set_option maxHeartbeats 4000000 in
set_option maxRecDepth 100000 in
theorem c_QU_size (l : Launch) (E : fh_E) (h : fh_H) (qu al arr : Nat) (rqs : List tQ) (hC : QLs E h qu al arr rqs) (h48 : rqs.length ≤ 48) : fh_Met l y_QU_size w_QU_size ({ frames := 1, cells := 0, slots := 0, locals := 20 }) E [.ref qu] h (fun r h1 => r = some (.int (nI rqs.length)) ∧ h1 = h) 0 0 := by
  refine fh_ofW (cc := b_QU_size) (maxL := 1) (ret := (some .int)) (by decide) rfl (Nat.le_of_ble_eq_true rfl) ?_
  intro p e s m below meth c A ls hx hb hr hml hown hts hlocks hname hnoh hadm hA hK hZ hP hS hl
  have hG : ∀ w ∈ G, w.before _ s = true := fun w hw => hts w (List.mem_cons_of_mem _ hw)
  have hown : s.vm.findClass R_QU = some m.cls := hown
  have hl : lv_has ls 1 [(0, .ref qu)] := hl
  obtain ⟨hc, hL, hP1⟩ := hC
  obtain ⟨md, ha⟩ := hL.al
  rw [mp_len] at ha
  refine lv_aload_n hx hb d_QU_size_0 rfl (lv_at hl 0 rfl) ?_
  refine fh_get hx hb hG C_QU iG_QU hown hK hP hc 0 (by decide) gm81 rfl d_QU_size_1 ?_
  refine fh_callV (C := R_AL) (y := y_AL_size) (bytes := b_AL_size) (maxL := 1) (ret := (some .int)) (index := 18) (As := []) (rest := []) ⟨hx, hb, hml, hown, hG⟩ (c_AL_size l E h al (.ref arr) (nI rqs.length) md ha) (cwV 0 hG (gV gm164 gm165 gm166 gm5 gm167) rfl rfl rfl ⟨rfl, hdy_AL_size⟩ ⟨Nat.le_of_ble_eq_true rfl, Nat.le_of_ble_eq_true rfl⟩) C_AL.1 ha hK hZ hP hS hA rfl hl.1 rfl (Nat.le_of_ble_eq_true rfl) d_QU_size_4 ⟨Nat.le_of_ble_eq_true rfl, Nat.le_of_ble_eq_true rfl⟩ (fun r h1 H locs hq9 hP hS => ?_)
  obtain ⟨rfl, e9⟩ := hq9
  rw [e9] at hP
  refine W.eq (g2 := F0 m 7 ls [.int (nI rqs.length)]) rfl ?_
  exact fh_iret hx hb hr hlocks (Nat.le_of_ble_eq_true rfl) (Nat.le_of_ble_eq_true rfl) hP hS ⟨rfl, rfl⟩ d_QU_size_7

set_option maxHeartbeats 4000000 in
set_option maxRecDepth 100000 in
theorem c_QU_at (l : Launch) (E : fh_E) (h : fh_H) (qu al arr : Nat) (rqs : List tQ) (hC : QLs E h qu al arr rqs) (h48 : rqs.length ≤ 48) (i : Int32) : fh_Met l y_QU_at w_QU_at ({ frames := 3, cells := 0, slots := 0, locals := 64 }) E [.ref qu, .int i] h (fun r h1 => r = some (va_rf ((atI rqs i).map (·.1))) ∧ h1 = h) 0 0 := by
  refine fh_ofW (cc := b_QU_at) (maxL := 2) (ret := (some (.object "BlockLayer$Request"))) (by decide) rfl (Nat.le_of_ble_eq_true rfl) ?_
  intro p e s m below meth c A ls hx hb hr hml hown hts hlocks hname hnoh hadm hA hK hZ hP hS hl
  have hG : ∀ w ∈ G, w.before _ s = true := fun w hw => hts w (List.mem_cons_of_mem _ hw)
  have hown : s.vm.findClass R_QU = some m.cls := hown
  have hl : lv_has ls 2 [(0, .ref qu), (1, .int i)] := hl
  obtain ⟨hc, hL, hP1⟩ := hC
  obtain ⟨md, ha⟩ := hL.al
  rw [mp_len] at ha
  refine lv_iload_n hx hb d_QU_at_0 rfl (lv_at hl 1 rfl) ?_
  refine lv_if_lt (tgt := 15) hx hb d_QU_at_1 (by decide) (fun c_1 => ?_) (fun c_1 => ?_)
  · skip
    refine lv_null hx hb d_QU_at_15 ?_
    refine lv_goto (tgt := 30) hx hb d_QU_at_16 (by decide) ?_
    exact fh_aret hx hb hr (Or.inl ⟨_, rfl⟩) (Or.inl rfl) hlocks (Nat.le_of_ble_eq_true rfl) (Nat.le_of_ble_eq_true rfl) hP hS ⟨by rw [rf_none (atI_neg c_1)], rfl⟩ d_QU_at_30
  · skip
    refine lv_iload_n hx hb d_QU_at_4 rfl (lv_at hl 1 rfl) ?_
    refine lv_aload_n hx hb d_QU_at_5 rfl (lv_at hl 0 rfl) ?_
    refine fh_get hx hb hG C_QU iG_QU hown hK hP hc 0 (by decide) gm81 rfl d_QU_at_6 ?_
    refine fh_callV (C := R_AL) (y := y_AL_size) (bytes := b_AL_size) (maxL := 1) (ret := (some .int)) (index := 18) (As := []) (rest := [.int i]) ⟨hx, hb, hml, hown, hG⟩ (c_AL_size l E h al (.ref arr) (nI rqs.length) md ha) (cwV 0 hG (gV gm164 gm165 gm166 gm5 gm167) rfl rfl rfl ⟨rfl, hdy_AL_size⟩ ⟨Nat.le_of_ble_eq_true rfl, Nat.le_of_ble_eq_true rfl⟩) C_AL.1 ha hK hZ hP hS hA rfl hl.1 rfl (Nat.le_of_ble_eq_true rfl) d_QU_at_9 ⟨Nat.le_of_ble_eq_true rfl, Nat.le_of_ble_eq_true rfl⟩ (fun r h1 H locs hq9 hP hS => ?_)
    obtain ⟨rfl, e9⟩ := hq9
    rw [e9] at hP
    refine W.eq (g2 := F0 m 12 ls [.int (nI rqs.length), .int i]) rfl ?_
    refine lv_icmp_lt (tgt := 19) hx hb d_QU_at_12 (by decide) (fun c_2 => ?_) (fun c_2 => ?_)
    · skip
      obtain ⟨n, hn, rfl⟩ := nI_of c_1
      have hlt : n < rqs.length := (nI_ltI hn (by omega)).mp c_2
      obtain ⟨c0, hc0⟩ := mp_get hlt
      have kc := hP1 c0 (List.mem_of_getElem? hc0)
      refine lv_aload_n hx hb d_QU_at_19 rfl (lv_at hl 0 rfl) ?_
      refine fh_get hx hb hG C_QU iG_QU hown hK hP hc 0 (by decide) gm81 rfl d_QU_at_20 ?_
      refine lv_iload_n hx hb d_QU_at_23 rfl (lv_at hl 1 rfl) ?_
      refine fh_callV (C := R_AL) (y := y_AL_get) (bytes := b_AL_get) (maxL := 2) (ret := (some (.object "java/lang/Object"))) (index := 22) (As := [.int (nI n)]) (rest := []) ⟨hx, hb, hml, hown, hG⟩ (c_AL_get l E h al arr (rqs.map (·.1)) n c0.1 hL (mp_at hc0)) (cwV 1 hG (gV gm184 gm185 gm186 gm5 gm187) rfl rfl rfl ⟨rfl, hdy_AL_get⟩ ⟨Nat.le_of_ble_eq_true rfl, Nat.le_of_ble_eq_true rfl⟩) C_AL.1 ha hK hZ hP hS hA rfl hl.1 rfl (Nat.le_of_ble_eq_true rfl) d_QU_at_24 ⟨Nat.le_of_ble_eq_true rfl, Nat.le_of_ble_eq_true rfl⟩ (fun r h1 H locs hq9 hP hS => ?_)
      obtain ⟨rfl, e9⟩ := hq9
      rw [e9] at hP
      refine W.eq (g2 := F0 m 27 ls [.ref c0.1]) rfl ?_
      refine va_castY (C := R_RQ) hx hb hown (hG _ gm198) (fhK hZ _ (by simp [fhCast])) (fh_recv hK hP C_RQ.1 kc) d_QU_at_27 ?_
      exact fh_aret hx hb hr (Or.inl ⟨_, rfl⟩) (Or.inr ⟨_, rfl⟩) hlocks (Nat.le_of_ble_eq_true rfl) (Nat.le_of_ble_eq_true rfl) hP hS ⟨by rw [rf_some ((atI_nI hn).trans hc0)], rfl⟩ d_QU_at_30
    · skip
      refine lv_null hx hb d_QU_at_15 ?_
      refine lv_goto (tgt := 30) hx hb d_QU_at_16 (by decide) ?_
      exact fh_aret hx hb hr (Or.inl ⟨_, rfl⟩) (Or.inl rfl) hlocks (Nat.le_of_ble_eq_true rfl) (Nat.le_of_ble_eq_true rfl) hP hS ⟨by rw [rf_none (atI_big c_1 (by omega) c_2)], rfl⟩ d_QU_at_30

set_option maxHeartbeats 4000000 in
set_option maxRecDepth 100000 in
theorem c_QU_add (l : Launch) (E : fh_E) (h : fh_H) (qu al arr : Nat) (rqs : List tQ) (hC : QLs E h qu al arr rqs) (h48 : rqs.length ≤ 48) (r9 : tQ) (h9 : h r9.1 = some (.inr (3, [.int r9.2.1, .int r9.2.2.1, .int r9.2.2.2.1, .int r9.2.2.2.2.1, .int r9.2.2.2.2.2, .int 0]))) : fh_Met l y_QU_add w_QU_add ({ frames := 7, cells := 1, slots := 73, locals := 191 }) E [.ref qu, .ref r9.1] h (fun r h1 => r = none ∧ ∃ arr', QLs E h1 qu al arr' (rqs ++ [r9]) ∧ LFr h h1 al arr arr') 1 73 := by
  refine fh_ofW (cc := b_QU_add) (maxL := 2) (ret := none) (by decide) rfl (Nat.le_of_ble_eq_true rfl) ?_
  intro p e s m below meth c A ls hx hb hr hml hown hts hlocks hname hnoh hadm hA hK hZ hP hS hl
  have hG : ∀ w ∈ G, w.before _ s = true := fun w hw => hts w (List.mem_cons_of_mem _ hw)
  have hown : s.vm.findClass R_QU = some m.cls := hown
  have hl : lv_has ls 2 [(0, .ref qu), (1, .ref r9.1)] := hl
  obtain ⟨hc, hL, hP1⟩ := hC
  obtain ⟨md, ha⟩ := hL.al
  rw [mp_len] at ha
  have hia := hL.isArrZ hZ hP
  refine lv_aload_n hx hb d_QU_add_0 rfl (lv_at hl 0 rfl) ?_
  refine fh_get hx hb hG C_QU iG_QU hown hK hP hc 0 (by decide) gm81 rfl d_QU_add_1 ?_
  refine lv_aload_n hx hb d_QU_add_4 rfl (lv_at hl 1 rfl) ?_
  refine fh_callV (C := R_AL) (y := y_AL_add0) (bytes := b_AL_add0) (maxL := 2) (ret := (some .boolean)) (index := 28) (As := [.ref r9.1]) (rest := []) ⟨hx, hb, hml, hown, hG⟩ (c_AL_add0 l E h al arr (rqs.map (·.1)) r9.1 hL (by rw [mp_len]; exact h48) hP1.EO (Or.inr ⟨_, h9⟩)) (cwV 1 hG (gV gm588 gm294 gm295 gm5 gm296) rfl rfl rfl ⟨rfl, hdy_AL_add0⟩ ⟨Nat.le_of_ble_eq_true rfl, Nat.le_of_ble_eq_true rfl⟩) C_AL.1 ha hK hZ hP hS hA rfl hl.1 rfl (Nat.le_of_ble_eq_true rfl) d_QU_add_5 ⟨Nat.le_of_ble_eq_true rfl, Nat.le_of_ble_eq_true rfl⟩ (fun r h1 H locs hq9 hP hS => ?_)
  obtain ⟨rfl, arr1, g1, g2, g3, g4⟩ := hq9
  have hF : LFr h h1 al arr arr1 := ⟨g2, g3, g4⟩
  refine W.eq (g2 := F0 m 8 ls [.int 1]) rfl ?_
  refine lv_pop hx hb d_QU_add_8 rfl ?_
  refine fh_vret hx hb hr hlocks (Nat.le_of_ble_eq_true rfl) (Nat.le_of_ble_eq_true rfl) hP hS ⟨rfl, arr1, ⟨hF.obj ha hia hc (by decide), by rw [List.map_append]; exact g1, fun d hd => ?_⟩, hF⟩ d_QU_add_9
  rcases List.mem_append.mp hd with hd | hd
  · exact hF.obj ha hia (hP1 d hd) (by decide)
  · rw [List.mem_singleton.mp hd]; exact hF.obj ha hia h9 (by decide)

set_option maxHeartbeats 4000000 in
set_option maxRecDepth 100000 in
theorem c_QU_take_m1 (l : Launch) (E : fh_E) (h : fh_H) (qu : Nat) : fh_Met l y_QU_take w_QU_take ({ frames := 3, cells := 0, slots := 0, locals := 106 }) E [.ref qu, .int (-1)] h (fun r h1 => r = some .null ∧ h1 = h) 0 0 := by
  refine fh_ofW (cc := b_QU_take) (maxL := 2) (ret := (some (.object "BlockLayer$Request"))) (by decide) rfl (Nat.le_of_ble_eq_true rfl) ?_
  intro p e s m below meth c A ls hx hb hr hml hown hts hlocks hname hnoh hadm hA hK hZ hP hS hl
  have hG : ∀ w ∈ G, w.before _ s = true := fun w hw => hts w (List.mem_cons_of_mem _ hw)
  have hown : s.vm.findClass R_QU = some m.cls := hown
  have hl : lv_has ls 2 [(0, .ref qu), (1, .int (-1))] := hl
  refine lv_iload_n hx hb d_QU_take_0 rfl (lv_at hl 1 rfl) ?_
  refine lv_if_lt (tgt := 15) hx hb d_QU_take_1 (by decide) (fun c_1 => ?_) (fun c_1 => ?_)
  · skip
    refine lv_null hx hb d_QU_take_15 ?_
    refine lv_goto (tgt := 30) hx hb d_QU_take_16 (by decide) ?_
    exact fh_aret hx hb hr (Or.inl ⟨_, rfl⟩) (Or.inl rfl) hlocks (Nat.le_of_ble_eq_true rfl) (Nat.le_of_ble_eq_true rfl) hP hS ⟨rfl, rfl⟩ d_QU_take_30
  · skip
    exact absurd (by decide) c_1

set_option maxHeartbeats 4000000 in
set_option maxRecDepth 100000 in
theorem c_QU_take_at (l : Launch) (E : fh_E) (h : fh_H) (qu al arr : Nat) (rqs : List tQ) (hC : QLs E h qu al arr rqs) (h48 : rqs.length ≤ 48) (n : Nat) (c0 : tQ) (hc0 : rqs[n]? = some c0) : fh_Met l y_QU_take w_QU_take ({ frames := 3, cells := 0, slots := 0, locals := 106 }) E [.ref qu, .int (nI n)] h (fun r h1 => r = some (.ref c0.1) ∧ QLs E h1 qu al arr (rqs.eraseIdx n) ∧ ∀ b, b ≠ al → b ≠ arr → h1 b = h b) 0 0 := by
  refine fh_ofW (cc := b_QU_take) (maxL := 2) (ret := (some (.object "BlockLayer$Request"))) (by decide) rfl (Nat.le_of_ble_eq_true rfl) ?_
  intro p e s m below meth c A ls hx hb hr hml hown hts hlocks hname hnoh hadm hA hK hZ hP hS hl
  have hG : ∀ w ∈ G, w.before _ s = true := fun w hw => hts w (List.mem_cons_of_mem _ hw)
  have hown : s.vm.findClass R_QU = some m.cls := hown
  have hl : lv_has ls 2 [(0, .ref qu), (1, .int (nI n))] := hl
  obtain ⟨hc, hL, hP1⟩ := hC
  obtain ⟨md, ha⟩ := hL.al
  rw [mp_len] at ha
  have hia := hL.isArrZ hZ hP
  have hlt : n < rqs.length := (List.getElem?_eq_some_iff.mp hc0).1
  have kc := hP1 c0 (List.mem_of_getElem? hc0)
  refine lv_iload_n hx hb d_QU_take_0 rfl (lv_at hl 1 rfl) ?_
  refine lv_if_lt (tgt := 15) hx hb d_QU_take_1 (by decide) (fun c_1 => ?_) (fun c_1 => ?_)
  · skip
    exact absurd c_1 (nI_pos (by omega))
  · skip
    refine lv_iload_n hx hb d_QU_take_4 rfl (lv_at hl 1 rfl) ?_
    refine lv_aload_n hx hb d_QU_take_5 rfl (lv_at hl 0 rfl) ?_
    refine fh_get hx hb hG C_QU iG_QU hown hK hP hc 0 (by decide) gm81 rfl d_QU_take_6 ?_
    refine fh_callV (C := R_AL) (y := y_AL_size) (bytes := b_AL_size) (maxL := 1) (ret := (some .int)) (index := 18) (As := []) (rest := [.int (nI n)]) ⟨hx, hb, hml, hown, hG⟩ (c_AL_size l E h al (.ref arr) (nI rqs.length) md ha) (cwV 0 hG (gV gm164 gm165 gm166 gm5 gm167) rfl rfl rfl ⟨rfl, hdy_AL_size⟩ ⟨Nat.le_of_ble_eq_true rfl, Nat.le_of_ble_eq_true rfl⟩) C_AL.1 ha hK hZ hP hS hA rfl hl.1 rfl (Nat.le_of_ble_eq_true rfl) d_QU_take_9 ⟨Nat.le_of_ble_eq_true rfl, Nat.le_of_ble_eq_true rfl⟩ (fun r h1 H locs hq9 hP hS => ?_)
    obtain ⟨rfl, e9⟩ := hq9
    rw [e9] at hP
    refine W.eq (g2 := F0 m 12 ls [.int (nI rqs.length), .int (nI n)]) rfl ?_
    refine lv_icmp_lt (tgt := 19) hx hb d_QU_take_12 (by decide) (fun c_2 => ?_) (fun c_2 => ?_)
    · skip
      refine lv_aload_n hx hb d_QU_take_19 rfl (lv_at hl 0 rfl) ?_
      refine fh_get hx hb hG C_QU iG_QU hown hK hP hc 0 (by decide) gm81 rfl d_QU_take_20 ?_
      refine lv_iload_n hx hb d_QU_take_23 rfl (lv_at hl 1 rfl) ?_
      refine fh_callV (C := R_AL) (y := y_AL_remove) (bytes := b_AL_remove) (maxL := 4) (ret := (some (.object "java/lang/Object"))) (index := 32) (As := [.int (nI n)]) (rest := []) ⟨hx, hb, hml, hown, hG⟩ (c_AL_remove l E h al arr (rqs.map (·.1)) n c0.1 hL (mp_at hc0) hP1.EO) (cwV 1 hG (gV gm229 gm230 gm231 gm5 gm232) rfl rfl rfl ⟨rfl, hdy_AL_remove⟩ ⟨Nat.le_of_ble_eq_true rfl, Nat.le_of_ble_eq_true rfl⟩) C_AL.1 ha hK hZ hP hS hA rfl hl.1 rfl (Nat.le_of_ble_eq_true rfl) d_QU_take_24 ⟨Nat.le_of_ble_eq_true rfl, Nat.le_of_ble_eq_true rfl⟩ (fun r h1 H locs hq9 hP hS => ?_)
      obtain ⟨rfl, g1, g2⟩ := hq9
      refine W.eq (g2 := F0 m 27 ls [.ref c0.1]) rfl ?_
      have kc1 := fr_obj g2 ha hia kc (by decide)
      refine va_castY (C := R_RQ) hx hb hown (hG _ gm198) (fhK hZ _ (by simp [fhCast])) (fh_recv hK hP C_RQ.1 kc1) d_QU_take_27 ?_
      exact fh_aret hx hb hr (Or.inl ⟨_, rfl⟩) (Or.inr ⟨_, rfl⟩) hlocks (Nat.le_of_ble_eq_true rfl) (Nat.le_of_ble_eq_true rfl) hP hS ⟨rfl, ⟨fr_obj g2 ha hia hc (by decide), by rw [← er_map]; exact g1, fun d hd => fr_obj g2 ha hia (hP1 d (List.mem_of_mem_eraseIdx hd)) (by decide)⟩, g2⟩ d_QU_take_30
    · skip
      exact absurd (nI_lt hlt (by omega)) c_2

set_option maxHeartbeats 4000000 in
set_option maxRecDepth 100000 in
theorem c_QU_clear (l : Launch) (E : fh_E) (h : fh_H) (qu al arr : Nat) (rqs : List tQ) (hC : QLs E h qu al arr rqs) : fh_Met l y_QU_clear w_QU_clear ({ frames := 1, cells := 0, slots := 0, locals := 23 }) E [.ref qu] h (fun r h1 => r = none ∧ QLs E h1 qu al arr [] ∧ ∀ b, b ≠ al → b ≠ arr → h1 b = h b) 0 0 := by
  refine fh_ofW (cc := b_QU_clear) (maxL := 1) (ret := none) (by decide) rfl (Nat.le_of_ble_eq_true rfl) ?_
  intro p e s m below meth c A ls hx hb hr hml hown hts hlocks hname hnoh hadm hA hK hZ hP hS hl
  have hG : ∀ w ∈ G, w.before _ s = true := fun w hw => hts w (List.mem_cons_of_mem _ hw)
  have hown : s.vm.findClass R_QU = some m.cls := hown
  have hl : lv_has ls 1 [(0, .ref qu)] := hl
  obtain ⟨hc, hL, hP1⟩ := hC
  obtain ⟨md, ha⟩ := hL.al
  have hia := hL.isArrZ hZ hP
  refine lv_aload_n hx hb d_QU_clear_0 rfl (lv_at hl 0 rfl) ?_
  refine fh_get hx hb hG C_QU iG_QU hown hK hP hc 0 (by decide) gm81 rfl d_QU_clear_1 ?_
  refine fh_callV (C := R_AL) (y := y_AL_clear) (bytes := b_AL_clear) (maxL := 4) (ret := none) (index := 35) (As := []) (rest := []) ⟨hx, hb, hml, hown, hG⟩ (c_AL_clear l E h al arr (rqs.map (·.1)) hL) (cwV 0 hG (gV gm392 gm385 gm386 gm5 gm387) rfl rfl rfl ⟨rfl, hdy_AL_clear⟩ ⟨Nat.le_of_ble_eq_true rfl, Nat.le_of_ble_eq_true rfl⟩) C_AL.1 ha hK hZ hP hS hA rfl hl.1 rfl (Nat.le_of_ble_eq_true rfl) d_QU_clear_4 ⟨Nat.le_of_ble_eq_true rfl, Nat.le_of_ble_eq_true rfl⟩ (fun r h1 H locs hq9 hP hS => ?_)
  obtain ⟨rfl, g1, g2⟩ := hq9
  refine W.eq (g2 := F0 m 7 ls []) rfl ?_
  exact fh_vret hx hb hr hlocks (Nat.le_of_ble_eq_true rfl) (Nat.le_of_ble_eq_true rfl) hP hS ⟨rfl, ⟨fr_obj g2 ha hia hc (by decide), g1, fun d hd => absurd hd List.not_mem_nil⟩, g2⟩ d_QU_clear_7

set_option maxHeartbeats 4000000 in
set_option maxRecDepth 100000 in
theorem c_QU_ofNumber (l : Launch) (E : fh_E) (h : fh_H) (qu al arr : Nat) (rqs : List tQ) (hC : QLs E h qu al arr rqs) (h48 : rqs.length ≤ 48) (b : Int32) : fh_Met l y_QU_ofNumber w_QU_ofNumber ({ frames := 3, cells := 0, slots := 0, locals := 64 }) E [.ref qu, .int b] h (fun r h1 => r = some (va_rf ((rqs.find? (fun c => c.2.1 == b)).map (·.1))) ∧ h1 = h) 0 0 := by
  refine fh_ofW (cc := b_QU_ofNumber) (maxL := 3) (ret := (some (.object "BlockLayer$Request"))) (by decide) rfl (Nat.le_of_ble_eq_true rfl) ?_
  intro p e s m below meth c A ls hx hb hr hml hown hts hlocks hname hnoh hadm hA hK hZ hP hS hl
  have hG : ∀ w ∈ G, w.before _ s = true := fun w hw => hts w (List.mem_cons_of_mem _ hw)
  have hown : s.vm.findClass R_QU = some m.cls := hown
  have hl : lv_has ls 3 [(0, .ref qu), (1, .int b)] := hl
  obtain ⟨hc, hL, hP1⟩ := hC
  obtain ⟨md, ha⟩ := hL.al
  rw [mp_len] at ha
  refine lv_iconst (v := 0) hx hb d_QU_ofNumber_0 (by decide) ?_
  refine lv_istore_n (lv' := [(2, .int 0), (0, .ref qu), (1, .int b)]) hx hb d_QU_ofNumber_1 rfl hl (by decide) rfl (fun ls hl => ?_)
  have loop : ∀ (n i : Nat) (H : Heap) (locs : List Loc) (ls : Array Slot), i + n = rqs.length → rqs.find? (fun c => c.2.1 == b) = (rqs.drop i).find? (fun c => c.2.1 == b) → lv_has ls 3 [(2, .int (nI i)), (0, .ref qu), (1, .int b)] → fh_P E.1 vwCl A h H → va_S A s.heap H locs → W p l e ({ frames := 3, cells := 0, slots := 0, locals := 64 }) s m ([.ref qu, .int b] : List Value).toArray below meth c H locs 0 0 (MQ below (fh_Post E (fun r h1 => r = some (va_rf ((rqs.find? (fun c => c.2.1 == b)).map (·.1))) ∧ h1 = h) A) ([.ref qu, .int b] : List Value).toArray s 0 0 A) (F0 m 2 ls []) := by
    intro n
    induction n with
    | zero =>
      intro i H locs ls hin hinv hl hP hS
      refine lv_iload_n hx hb d_QU_ofNumber_2 rfl (lv_at hl 0 rfl) ?_
      refine lv_aload_n hx hb d_QU_ofNumber_3 rfl (lv_at hl 1 rfl) ?_
      refine fh_get hx hb hG C_QU iG_QU hown hK hP hc 0 (by decide) gm81 rfl d_QU_ofNumber_4 ?_
      refine fh_callV (C := R_AL) (y := y_AL_size) (bytes := b_AL_size) (maxL := 1) (ret := (some .int)) (index := 18) (As := []) (rest := [.int (nI i)]) ⟨hx, hb, hml, hown, hG⟩ (c_AL_size l E h al (.ref arr) (nI rqs.length) md ha) (cwV 0 hG (gV gm164 gm165 gm166 gm5 gm167) rfl rfl rfl ⟨rfl, hdy_AL_size⟩ ⟨Nat.le_of_ble_eq_true rfl, Nat.le_of_ble_eq_true rfl⟩) C_AL.1 ha hK hZ hP hS hA rfl hl.1 rfl (Nat.le_of_ble_eq_true rfl) d_QU_ofNumber_7 ⟨Nat.le_of_ble_eq_true rfl, Nat.le_of_ble_eq_true rfl⟩ (fun r h1 H locs hq9 hP hS => ?_)
      obtain ⟨rfl, e9⟩ := hq9
      rw [e9] at hP
      refine W.eq (g2 := F0 m 10 ls [.int (nI rqs.length), .int (nI i)]) rfl ?_
      refine lv_icmp_ge (tgt := 49) hx hb d_QU_ofNumber_10 (by decide) (fun c_1 => ?_) (fun c_1 => ?_)
      · skip
        refine lv_null hx hb d_QU_ofNumber_49 ?_
        exact fh_aret hx hb hr (Or.inl ⟨_, rfl⟩) (Or.inl rfl) hlocks (Nat.le_of_ble_eq_true rfl) (Nat.le_of_ble_eq_true rfl) hP hS ⟨by rw [rf_none (fd_end hinv (by omega))], rfl⟩ d_QU_ofNumber_50
      · exact absurd (nI_le (by omega) (by omega)) c_1
    | succ n ih =>
      intro i H locs ls hin hinv hl hP hS
      refine lv_iload_n hx hb d_QU_ofNumber_2 rfl (lv_at hl 0 rfl) ?_
      refine lv_aload_n hx hb d_QU_ofNumber_3 rfl (lv_at hl 1 rfl) ?_
      refine fh_get hx hb hG C_QU iG_QU hown hK hP hc 0 (by decide) gm81 rfl d_QU_ofNumber_4 ?_
      refine fh_callV (C := R_AL) (y := y_AL_size) (bytes := b_AL_size) (maxL := 1) (ret := (some .int)) (index := 18) (As := []) (rest := [.int (nI i)]) ⟨hx, hb, hml, hown, hG⟩ (c_AL_size l E h al (.ref arr) (nI rqs.length) md ha) (cwV 0 hG (gV gm164 gm165 gm166 gm5 gm167) rfl rfl rfl ⟨rfl, hdy_AL_size⟩ ⟨Nat.le_of_ble_eq_true rfl, Nat.le_of_ble_eq_true rfl⟩) C_AL.1 ha hK hZ hP hS hA rfl hl.1 rfl (Nat.le_of_ble_eq_true rfl) d_QU_ofNumber_7 ⟨Nat.le_of_ble_eq_true rfl, Nat.le_of_ble_eq_true rfl⟩ (fun r h1 H locs hq9 hP hS => ?_)
      obtain ⟨rfl, e9⟩ := hq9
      rw [e9] at hP
      refine W.eq (g2 := F0 m 10 ls [.int (nI rqs.length), .int (nI i)]) rfl ?_
      refine lv_icmp_ge (tgt := 49) hx hb d_QU_ofNumber_10 (by decide) (fun c_2 => ?_) (fun c_2 => ?_)
      · exact absurd ((nI_leI (by omega) (by omega)).mp c_2) (by omega)
      · obtain ⟨c0, hc0⟩ := mp_get (xs := rqs) (i := i) (by omega)
        have kc := hP1 c0 (List.mem_of_getElem? hc0)
        refine lv_aload_n hx hb d_QU_ofNumber_13 rfl (lv_at hl 1 rfl) ?_
        refine fh_get hx hb hG C_QU iG_QU hown hK hP hc 0 (by decide) gm81 rfl d_QU_ofNumber_14 ?_
        refine lv_iload_n hx hb d_QU_ofNumber_17 rfl (lv_at hl 0 rfl) ?_
        refine fh_callV (C := R_AL) (y := y_AL_get) (bytes := b_AL_get) (maxL := 2) (ret := (some (.object "java/lang/Object"))) (index := 22) (As := [.int (nI i)]) (rest := []) ⟨hx, hb, hml, hown, hG⟩ (c_AL_get l E h al arr (rqs.map (·.1)) i c0.1 hL (mp_at hc0)) (cwV 1 hG (gV gm184 gm185 gm186 gm5 gm187) rfl rfl rfl ⟨rfl, hdy_AL_get⟩ ⟨Nat.le_of_ble_eq_true rfl, Nat.le_of_ble_eq_true rfl⟩) C_AL.1 ha hK hZ hP hS hA rfl hl.1 rfl (Nat.le_of_ble_eq_true rfl) d_QU_ofNumber_18 ⟨Nat.le_of_ble_eq_true rfl, Nat.le_of_ble_eq_true rfl⟩ (fun r h1 H locs hq9 hP hS => ?_)
        obtain ⟨rfl, e9⟩ := hq9
        rw [e9] at hP
        refine W.eq (g2 := F0 m 21 ls [.ref c0.1]) rfl ?_
        refine va_castY (C := R_RQ) hx hb hown (hG _ gm198) (fhK hZ _ (by simp [fhCast])) (fh_recv hK hP C_RQ.1 kc) d_QU_ofNumber_21 ?_
        refine fh_get hx hb hG C_RQ iG_RQ hown hK hP kc 0 (by decide) gm553 rfl d_QU_ofNumber_24 ?_
        refine lv_iload_n hx hb d_QU_ofNumber_27 rfl (lv_at hl 2 rfl) ?_
        refine lv_icmp_ne (tgt := 43) hx hb d_QU_ofNumber_28 (by decide) (fun c_3 => ?_) (fun c_3 => ?_)
        · skip
          refine lv_iinc (v := ((nI i)) + 1) (lv' := [(2, .int (((nI i)) + 1)), (0, .ref qu), (1, .int b)]) hx hb d_QU_ofNumber_43 hl (k := 0) rfl rfl (by decide) rfl (fun ls hl => ?_)
          refine lv_goto (tgt := 2) hx hb d_QU_ofNumber_46 (by decide) ?_
          exact ih (i + 1) _ _ _ (by omega) (fd_neg hinv hc0 (by simpa using c_3)) (by rw [← nI_1]; exact lv_sub hl [0, 1, 2] rfl) hP hS
        · skip
          refine lv_aload_n hx hb d_QU_ofNumber_31 rfl (lv_at hl 1 rfl) ?_
          refine fh_get hx hb hG C_QU iG_QU hown hK hP hc 0 (by decide) gm81 rfl d_QU_ofNumber_32 ?_
          refine lv_iload_n hx hb d_QU_ofNumber_35 rfl (lv_at hl 0 rfl) ?_
          refine fh_callV (C := R_AL) (y := y_AL_get) (bytes := b_AL_get) (maxL := 2) (ret := (some (.object "java/lang/Object"))) (index := 22) (As := [.int (nI i)]) (rest := []) ⟨hx, hb, hml, hown, hG⟩ (c_AL_get l E h al arr (rqs.map (·.1)) i c0.1 hL (mp_at hc0)) (cwV 1 hG (gV gm184 gm185 gm186 gm5 gm187) rfl rfl rfl ⟨rfl, hdy_AL_get⟩ ⟨Nat.le_of_ble_eq_true rfl, Nat.le_of_ble_eq_true rfl⟩) C_AL.1 ha hK hZ hP hS hA rfl hl.1 rfl (Nat.le_of_ble_eq_true rfl) d_QU_ofNumber_36 ⟨Nat.le_of_ble_eq_true rfl, Nat.le_of_ble_eq_true rfl⟩ (fun r h1 H locs hq9 hP hS => ?_)
          obtain ⟨rfl, e9⟩ := hq9
          rw [e9] at hP
          refine W.eq (g2 := F0 m 39 ls [.ref c0.1]) rfl ?_
          refine va_castY (C := R_RQ) hx hb hown (hG _ gm198) (fhK hZ _ (by simp [fhCast])) (fh_recv hK hP C_RQ.1 kc) d_QU_ofNumber_39 ?_
          exact fh_aret hx hb hr (Or.inl ⟨_, rfl⟩) (Or.inr ⟨_, rfl⟩) hlocks (Nat.le_of_ble_eq_true rfl) (Nat.le_of_ble_eq_true rfl) hP hS ⟨by rw [rf_some (fd_pos hinv hc0 (by simpa using c_3))], rfl⟩ d_QU_ofNumber_42
  exact loop rqs.length 0 _ _ _ (by omega) rfl (by rw [nI_0]; exact hl) hP hS

set_option maxHeartbeats 4000000 in
set_option maxRecDepth 100000 in
theorem c_QU_absorberOf (l : Launch) (E : fh_E) (h : fh_H) (qu al arr : Nat) (rqs : List tQ) (hC : QLs E h qu al arr rqs) (h48 : rqs.length ≤ 48) (b : Int32) : fh_Met l y_QU_absorberOf w_QU_absorberOf ({ frames := 3, cells := 0, slots := 0, locals := 64 }) E [.ref qu, .int b] h (fun r h1 => r = some (va_rf ((absR b rqs.reverse).map (·.1))) ∧ h1 = h) 0 0 := by
  refine fh_ofW (cc := b_QU_absorberOf) (maxL := 4) (ret := (some (.object "BlockLayer$Request"))) (by decide) rfl (Nat.le_of_ble_eq_true rfl) ?_
  intro p e s m below meth c A ls hx hb hr hml hown hts hlocks hname hnoh hadm hA hK hZ hP hS hl
  have hG : ∀ w ∈ G, w.before _ s = true := fun w hw => hts w (List.mem_cons_of_mem _ hw)
  have hown : s.vm.findClass R_QU = some m.cls := hown
  have hl : lv_has ls 4 [(0, .ref qu), (1, .int b)] := hl
  obtain ⟨hc, hL, hP1⟩ := hC
  obtain ⟨md, ha⟩ := hL.al
  rw [mp_len] at ha
  refine lv_aload_n hx hb d_QU_absorberOf_0 rfl (lv_at hl 0 rfl) ?_
  refine fh_get hx hb hG C_QU iG_QU hown hK hP hc 0 (by decide) gm81 rfl d_QU_absorberOf_1 ?_
  refine fh_callV (C := R_AL) (y := y_AL_size) (bytes := b_AL_size) (maxL := 1) (ret := (some .int)) (index := 18) (As := []) (rest := []) ⟨hx, hb, hml, hown, hG⟩ (c_AL_size l E h al (.ref arr) (nI rqs.length) md ha) (cwV 0 hG (gV gm164 gm165 gm166 gm5 gm167) rfl rfl rfl ⟨rfl, hdy_AL_size⟩ ⟨Nat.le_of_ble_eq_true rfl, Nat.le_of_ble_eq_true rfl⟩) C_AL.1 ha hK hZ hP hS hA rfl hl.1 rfl (Nat.le_of_ble_eq_true rfl) d_QU_absorberOf_4 ⟨Nat.le_of_ble_eq_true rfl, Nat.le_of_ble_eq_true rfl⟩ (fun r h1 H locs hq9 hP hS => ?_)
  obtain ⟨rfl, e9⟩ := hq9
  rw [e9] at hP
  refine W.eq (g2 := F0 m 7 ls [.int (nI rqs.length)]) rfl ?_
  refine lv_iconst (v := 1) hx hb d_QU_absorberOf_7 (by decide) ?_
  refine lv_isub hx hb d_QU_absorberOf_8 ?_
  refine lv_istore_n (lv' := [(2, .int (((nI rqs.length)) - 1)), (0, .ref qu), (1, .int b)]) hx hb d_QU_absorberOf_9 rfl hl (by decide) rfl (fun ls hl => ?_)
  have loop : ∀ (j : Nat) (H : Heap) (locs : List Loc) (ls : Array Slot), j ≤ rqs.length → absR b rqs.reverse = absR b (rqs.take j).reverse → lv_has ls 4 [(2, .int (nI j - 1)), (0, .ref qu), (1, .int b)] → fh_P E.1 vwCl A h H → va_S A s.heap H locs → W p l e ({ frames := 3, cells := 0, slots := 0, locals := 64 }) s m ([.ref qu, .int b] : List Value).toArray below meth c H locs 0 0 (MQ below (fh_Post E (fun r h1 => r = some (va_rf ((absR b rqs.reverse).map (·.1))) ∧ h1 = h) A) ([.ref qu, .int b] : List Value).toArray s 0 0 A) (F0 m 10 ls []) := by
    intro j
    induction j with
    | zero =>
      intro H locs ls hin hinv hl hP hS
      refine lv_iload_n hx hb d_QU_absorberOf_10 rfl (lv_at hl 0 rfl) ?_
      refine lv_if_lt (tgt := 64) hx hb d_QU_absorberOf_11 (by decide) (fun c_1 => ?_) (fun c_1 => ?_)
      · skip
        refine lv_null hx hb d_QU_absorberOf_64 ?_
        exact fh_aret hx hb hr (Or.inl ⟨_, rfl⟩) (Or.inl rfl) hlocks (Nat.le_of_ble_eq_true rfl) (Nat.le_of_ble_eq_true rfl) hP hS ⟨by rw [hinv]; rfl, rfl⟩ d_QU_absorberOf_65
      · exact absurd li_neg0 c_1
    | succ n ih =>
      intro H locs ls hin hinv hl hP hS
      rw [nI_pred] at hl
      refine lv_iload_n hx hb d_QU_absorberOf_10 rfl (lv_at hl 0 rfl) ?_
      refine lv_if_lt (tgt := 64) hx hb d_QU_absorberOf_11 (by decide) (fun c_2 => ?_) (fun c_2 => ?_)
      · exact absurd c_2 (nI_pos (by omega))
      · obtain ⟨c0, hc0⟩ := mp_get (xs := rqs) (i := n) (by omega)
        have kc := hP1 c0 (List.mem_of_getElem? hc0)
        rw [tk_rev hc0] at hinv
        refine lv_aload_n hx hb d_QU_absorberOf_14 rfl (lv_at hl 1 rfl) ?_
        refine fh_get hx hb hG C_QU iG_QU hown hK hP hc 0 (by decide) gm81 rfl d_QU_absorberOf_15 ?_
        refine lv_iload_n hx hb d_QU_absorberOf_18 rfl (lv_at hl 0 rfl) ?_
        refine fh_callV (C := R_AL) (y := y_AL_get) (bytes := b_AL_get) (maxL := 2) (ret := (some (.object "java/lang/Object"))) (index := 22) (As := [.int (nI n)]) (rest := []) ⟨hx, hb, hml, hown, hG⟩ (c_AL_get l E h al arr (rqs.map (·.1)) n c0.1 hL (mp_at hc0)) (cwV 1 hG (gV gm184 gm185 gm186 gm5 gm187) rfl rfl rfl ⟨rfl, hdy_AL_get⟩ ⟨Nat.le_of_ble_eq_true rfl, Nat.le_of_ble_eq_true rfl⟩) C_AL.1 ha hK hZ hP hS hA rfl hl.1 rfl (Nat.le_of_ble_eq_true rfl) d_QU_absorberOf_19 ⟨Nat.le_of_ble_eq_true rfl, Nat.le_of_ble_eq_true rfl⟩ (fun r h1 H locs hq9 hP hS => ?_)
        obtain ⟨rfl, e9⟩ := hq9
        rw [e9] at hP
        refine W.eq (g2 := F0 m 22 ls [.ref c0.1]) rfl ?_
        refine va_castY (C := R_RQ) hx hb hown (hG _ gm198) (fhK hZ _ (by simp [fhCast])) (fh_recv hK hP C_RQ.1 kc) d_QU_absorberOf_22 ?_
        refine lv_astore_n (lv' := [(3, .ref c0.1), (2, .int (nI n)), (0, .ref qu), (1, .int b)]) hx hb d_QU_absorberOf_25 rfl hl (by decide) rfl (fun ls hl => ?_)
        refine lv_aload_n hx hb d_QU_absorberOf_26 rfl (lv_at hl 0 rfl) ?_
        refine fh_get hx hb hG C_RQ iG_RQ hown hK hP kc 1 (by decide) gm557 rfl d_QU_absorberOf_27 ?_
        refine lv_iconst (v := 2) hx hb d_QU_absorberOf_30 (by decide) ?_
        refine lv_icmp_ne (tgt := 36) hx hb d_QU_absorberOf_31 (by decide) (fun c_3 => ?_) (fun c_3 => ?_)
        · skip
          refine lv_aload_n hx hb d_QU_absorberOf_36 rfl (lv_at hl 0 rfl) ?_
          refine fh_get hx hb hG C_RQ iG_RQ hown hK hP kc 2 (by decide) gm561 rfl d_QU_absorberOf_37 ?_
          refine lv_iload_n hx hb d_QU_absorberOf_40 rfl (lv_at hl 3 rfl) ?_
          refine lv_icmp_ne (tgt := 58) hx hb d_QU_absorberOf_41 (by decide) (fun c_4 => ?_) (fun c_4 => ?_)
          · skip
            refine lv_iinc (v := ((nI n)) + (-1)) (lv' := [(2, .int (((nI n)) + (-1))), (3, .ref c0.1), (0, .ref qu), (1, .int b)]) hx hb d_QU_absorberOf_58 hl (k := 1) rfl rfl (by decide) rfl (fun ls hl => ?_)
            refine lv_goto (tgt := 10) hx hb d_QU_absorberOf_61 (by decide) ?_
            exact ih _ _ _ (by omega) (by rw [hinv]; simp only [absR]; rw [if_neg c_3, if_neg c_4]) (by rw [← li_m1]; exact lv_sub hl [0, 2, 3] rfl) hP hS
          · skip
            refine lv_aload_n hx hb d_QU_absorberOf_44 rfl (lv_at hl 0 rfl) ?_
            refine fh_get hx hb hG C_RQ iG_RQ hown hK hP kc 1 (by decide) gm557 rfl d_QU_absorberOf_45 ?_
            refine lv_iconst (v := 1) hx hb d_QU_absorberOf_48 (by decide) ?_
            refine lv_icmp_ne (tgt := 56) hx hb d_QU_absorberOf_49 (by decide) (fun c_5 => ?_) (fun c_5 => ?_)
            · skip
              refine lv_null hx hb d_QU_absorberOf_56 ?_
              exact fh_aret hx hb hr (Or.inl ⟨_, rfl⟩) (Or.inl rfl) hlocks (Nat.le_of_ble_eq_true rfl) (Nat.le_of_ble_eq_true rfl) hP hS ⟨by rw [rf_none (by rw [hinv]; simp only [absR]; rw [if_neg c_3, if_pos c_4, if_neg c_5])], rfl⟩ d_QU_absorberOf_57
            · skip
              refine lv_aload_n hx hb d_QU_absorberOf_52 rfl (lv_at hl 0 rfl) ?_
              refine lv_goto (tgt := 57) hx hb d_QU_absorberOf_53 (by decide) ?_
              exact fh_aret hx hb hr (Or.inl ⟨_, rfl⟩) (Or.inr ⟨_, rfl⟩) hlocks (Nat.le_of_ble_eq_true rfl) (Nat.le_of_ble_eq_true rfl) hP hS ⟨by rw [rf_some (by rw [hinv]; simp only [absR]; rw [if_neg c_3, if_pos c_4, if_pos c_5])], rfl⟩ d_QU_absorberOf_57
        · skip
          refine lv_null hx hb d_QU_absorberOf_34 ?_
          exact fh_aret hx hb hr (Or.inl ⟨_, rfl⟩) (Or.inl rfl) hlocks (Nat.le_of_ble_eq_true rfl) (Nat.le_of_ble_eq_true rfl) hP hS ⟨by rw [rf_none (by rw [hinv]; simp only [absR]; rw [if_pos c_3])], rfl⟩ d_QU_absorberOf_35
  exact loop rqs.length _ _ _ (Nat.le_refl _) (by rw [List.take_length]) hl hP hS

set_option maxHeartbeats 4000000 in
set_option maxRecDepth 100000 in
theorem c_QU_lastWriteOf (l : Launch) (E : fh_E) (h : fh_H) (qu al arr : Nat) (rqs : List tQ) (hC : QLs E h qu al arr rqs) (h48 : rqs.length ≤ 48) (b : Int32) : fh_Met l y_QU_lastWriteOf w_QU_lastWriteOf ({ frames := 3, cells := 0, slots := 0, locals := 64 }) E [.ref qu, .int b] h (fun r h1 => r = some (va_rf ((rqs.reverse.find? (fun c => c.2.2.1 == 1 && c.2.2.2.1 == b)).map (·.1))) ∧ h1 = h) 0 0 := by
  refine fh_ofW (cc := b_QU_lastWriteOf) (maxL := 4) (ret := (some (.object "BlockLayer$Request"))) (by decide) rfl (Nat.le_of_ble_eq_true rfl) ?_
  intro p e s m below meth c A ls hx hb hr hml hown hts hlocks hname hnoh hadm hA hK hZ hP hS hl
  have hG : ∀ w ∈ G, w.before _ s = true := fun w hw => hts w (List.mem_cons_of_mem _ hw)
  have hown : s.vm.findClass R_QU = some m.cls := hown
  have hl : lv_has ls 4 [(0, .ref qu), (1, .int b)] := hl
  obtain ⟨hc, hL, hP1⟩ := hC
  obtain ⟨md, ha⟩ := hL.al
  rw [mp_len] at ha
  refine lv_aload_n hx hb d_QU_lastWriteOf_0 rfl (lv_at hl 0 rfl) ?_
  refine fh_get hx hb hG C_QU iG_QU hown hK hP hc 0 (by decide) gm81 rfl d_QU_lastWriteOf_1 ?_
  refine fh_callV (C := R_AL) (y := y_AL_size) (bytes := b_AL_size) (maxL := 1) (ret := (some .int)) (index := 18) (As := []) (rest := []) ⟨hx, hb, hml, hown, hG⟩ (c_AL_size l E h al (.ref arr) (nI rqs.length) md ha) (cwV 0 hG (gV gm164 gm165 gm166 gm5 gm167) rfl rfl rfl ⟨rfl, hdy_AL_size⟩ ⟨Nat.le_of_ble_eq_true rfl, Nat.le_of_ble_eq_true rfl⟩) C_AL.1 ha hK hZ hP hS hA rfl hl.1 rfl (Nat.le_of_ble_eq_true rfl) d_QU_lastWriteOf_4 ⟨Nat.le_of_ble_eq_true rfl, Nat.le_of_ble_eq_true rfl⟩ (fun r h1 H locs hq9 hP hS => ?_)
  obtain ⟨rfl, e9⟩ := hq9
  rw [e9] at hP
  refine W.eq (g2 := F0 m 7 ls [.int (nI rqs.length)]) rfl ?_
  refine lv_iconst (v := 1) hx hb d_QU_lastWriteOf_7 (by decide) ?_
  refine lv_isub hx hb d_QU_lastWriteOf_8 ?_
  refine lv_istore_n (lv' := [(2, .int (((nI rqs.length)) - 1)), (0, .ref qu), (1, .int b)]) hx hb d_QU_lastWriteOf_9 rfl hl (by decide) rfl (fun ls hl => ?_)
  have loop : ∀ (j : Nat) (H : Heap) (locs : List Loc) (ls : Array Slot), j ≤ rqs.length → rqs.reverse.find? (fun c => c.2.2.1 == 1 && c.2.2.2.1 == b) = (rqs.take j).reverse.find? (fun c => c.2.2.1 == 1 && c.2.2.2.1 == b) → lv_has ls 4 [(2, .int (nI j - 1)), (0, .ref qu), (1, .int b)] → fh_P E.1 vwCl A h H → va_S A s.heap H locs → W p l e ({ frames := 3, cells := 0, slots := 0, locals := 64 }) s m ([.ref qu, .int b] : List Value).toArray below meth c H locs 0 0 (MQ below (fh_Post E (fun r h1 => r = some (va_rf ((rqs.reverse.find? (fun c => c.2.2.1 == 1 && c.2.2.2.1 == b)).map (·.1))) ∧ h1 = h) A) ([.ref qu, .int b] : List Value).toArray s 0 0 A) (F0 m 10 ls []) := by
    intro j
    induction j with
    | zero =>
      intro H locs ls hin hinv hl hP hS
      refine lv_iload_n hx hb d_QU_lastWriteOf_10 rfl (lv_at hl 0 rfl) ?_
      refine lv_if_lt (tgt := 50) hx hb d_QU_lastWriteOf_11 (by decide) (fun c_1 => ?_) (fun c_1 => ?_)
      · skip
        refine lv_null hx hb d_QU_lastWriteOf_50 ?_
        exact fh_aret hx hb hr (Or.inl ⟨_, rfl⟩) (Or.inl rfl) hlocks (Nat.le_of_ble_eq_true rfl) (Nat.le_of_ble_eq_true rfl) hP hS ⟨by rw [hinv]; rfl, rfl⟩ d_QU_lastWriteOf_51
      · exact absurd li_neg0 c_1
    | succ n ih =>
      intro H locs ls hin hinv hl hP hS
      rw [nI_pred] at hl
      refine lv_iload_n hx hb d_QU_lastWriteOf_10 rfl (lv_at hl 0 rfl) ?_
      refine lv_if_lt (tgt := 50) hx hb d_QU_lastWriteOf_11 (by decide) (fun c_2 => ?_) (fun c_2 => ?_)
      · exact absurd c_2 (nI_pos (by omega))
      · obtain ⟨c0, hc0⟩ := mp_get (xs := rqs) (i := n) (by omega)
        have kc := hP1 c0 (List.mem_of_getElem? hc0)
        rw [tk_rev hc0] at hinv
        refine lv_aload_n hx hb d_QU_lastWriteOf_14 rfl (lv_at hl 1 rfl) ?_
        refine fh_get hx hb hG C_QU iG_QU hown hK hP hc 0 (by decide) gm81 rfl d_QU_lastWriteOf_15 ?_
        refine lv_iload_n hx hb d_QU_lastWriteOf_18 rfl (lv_at hl 0 rfl) ?_
        refine fh_callV (C := R_AL) (y := y_AL_get) (bytes := b_AL_get) (maxL := 2) (ret := (some (.object "java/lang/Object"))) (index := 22) (As := [.int (nI n)]) (rest := []) ⟨hx, hb, hml, hown, hG⟩ (c_AL_get l E h al arr (rqs.map (·.1)) n c0.1 hL (mp_at hc0)) (cwV 1 hG (gV gm184 gm185 gm186 gm5 gm187) rfl rfl rfl ⟨rfl, hdy_AL_get⟩ ⟨Nat.le_of_ble_eq_true rfl, Nat.le_of_ble_eq_true rfl⟩) C_AL.1 ha hK hZ hP hS hA rfl hl.1 rfl (Nat.le_of_ble_eq_true rfl) d_QU_lastWriteOf_19 ⟨Nat.le_of_ble_eq_true rfl, Nat.le_of_ble_eq_true rfl⟩ (fun r h1 H locs hq9 hP hS => ?_)
        obtain ⟨rfl, e9⟩ := hq9
        rw [e9] at hP
        refine W.eq (g2 := F0 m 22 ls [.ref c0.1]) rfl ?_
        refine va_castY (C := R_RQ) hx hb hown (hG _ gm198) (fhK hZ _ (by simp [fhCast])) (fh_recv hK hP C_RQ.1 kc) d_QU_lastWriteOf_22 ?_
        refine lv_astore_n (lv' := [(3, .ref c0.1), (2, .int (nI n)), (0, .ref qu), (1, .int b)]) hx hb d_QU_lastWriteOf_25 rfl hl (by decide) rfl (fun ls hl => ?_)
        refine lv_aload_n hx hb d_QU_lastWriteOf_26 rfl (lv_at hl 0 rfl) ?_
        refine fh_get hx hb hG C_RQ iG_RQ hown hK hP kc 1 (by decide) gm557 rfl d_QU_lastWriteOf_27 ?_
        refine lv_iconst (v := 1) hx hb d_QU_lastWriteOf_30 (by decide) ?_
        refine lv_icmp_ne (tgt := 44) hx hb d_QU_lastWriteOf_31 (by decide) (fun c_3 => ?_) (fun c_3 => ?_)
        · skip
          refine lv_iinc (v := ((nI n)) + (-1)) (lv' := [(2, .int (((nI n)) + (-1))), (3, .ref c0.1), (0, .ref qu), (1, .int b)]) hx hb d_QU_lastWriteOf_44 hl (k := 1) rfl rfl (by decide) rfl (fun ls hl => ?_)
          refine lv_goto (tgt := 10) hx hb d_QU_lastWriteOf_47 (by decide) ?_
          exact ih _ _ _ (by omega) (by rw [hinv, List.find?_cons_of_neg (by simp [c_3])]) (by rw [← li_m1]; exact lv_sub hl [0, 2, 3] rfl) hP hS
        · skip
          refine lv_aload_n hx hb d_QU_lastWriteOf_34 rfl (lv_at hl 0 rfl) ?_
          refine fh_get hx hb hG C_RQ iG_RQ hown hK hP kc 2 (by decide) gm561 rfl d_QU_lastWriteOf_35 ?_
          refine lv_iload_n hx hb d_QU_lastWriteOf_38 rfl (lv_at hl 3 rfl) ?_
          refine lv_icmp_ne (tgt := 44) hx hb d_QU_lastWriteOf_39 (by decide) (fun c_4 => ?_) (fun c_4 => ?_)
          · skip
            refine lv_iinc (v := ((nI n)) + (-1)) (lv' := [(2, .int (((nI n)) + (-1))), (3, .ref c0.1), (0, .ref qu), (1, .int b)]) hx hb d_QU_lastWriteOf_44 hl (k := 1) rfl rfl (by decide) rfl (fun ls hl => ?_)
            refine lv_goto (tgt := 10) hx hb d_QU_lastWriteOf_47 (by decide) ?_
            exact ih _ _ _ (by omega) (by rw [hinv, List.find?_cons_of_neg (by simp [c_4])]) (by rw [← li_m1]; exact lv_sub hl [0, 2, 3] rfl) hP hS
          · skip
            refine lv_aload_n hx hb d_QU_lastWriteOf_42 rfl (lv_at hl 0 rfl) ?_
            exact fh_aret hx hb hr (Or.inl ⟨_, rfl⟩) (Or.inr ⟨_, rfl⟩) hlocks (Nat.le_of_ble_eq_true rfl) (Nat.le_of_ble_eq_true rfl) hP hS ⟨by rw [rf_some (by rw [hinv, List.find?_cons_of_pos (by simp [c_3, c_4])])], rfl⟩ d_QU_lastWriteOf_43
  exact loop rqs.length _ _ _ (Nat.le_refl _) (by rw [List.take_length]) hl hP hS

set_option maxHeartbeats 4000000 in
set_option maxRecDepth 100000 in
theorem c_QU_isReady (l : Launch) (E : fh_E) (h : fh_H) (qu al arr : Nat) (rqs : List tQ) (hC : QLs E h qu al arr rqs) (h48 : rqs.length ≤ 48) (k : Nat) (r0 : tQ) (hr9 : rqs[k]? = some r0) : fh_Met l y_QU_isReady w_QU_isReady ({ frames := 3, cells := 0, slots := 0, locals := 64 }) E [.ref qu, .int (nI k)] h (fun r h1 => r = some (.int (if rdy (rqs.map (·.2)) k = true then 1 else 0)) ∧ h1 = h) 0 0 := by
  refine fh_ofW (cc := b_QU_isReady) (maxL := 5) (ret := (some .boolean)) (by decide) rfl (Nat.le_of_ble_eq_true rfl) ?_
  intro p e s m below meth c A ls hx hb hr hml hown hts hlocks hname hnoh hadm hA hK hZ hP hS hl
  have hG : ∀ w ∈ G, w.before _ s = true := fun w hw => hts w (List.mem_cons_of_mem _ hw)
  have hown : s.vm.findClass R_QU = some m.cls := hown
  have hl : lv_has ls 5 [(0, .ref qu), (1, .int (nI k))] := hl
  obtain ⟨hc, hL, hP1⟩ := hC
  obtain ⟨md, ha⟩ := hL.al
  rw [mp_len] at ha
  have hk : k < rqs.length := (List.getElem?_eq_some_iff.mp hr9).1
  have kr := hP1 r0 (List.mem_of_getElem? hr9)
  have hrd := rdy_at hr9
  refine lv_iload_n hx hb d_QU_isReady_0 rfl (lv_at hl 1 rfl) ?_
  refine lv_if_lt (tgt := 15) hx hb d_QU_isReady_1 (by decide) (fun c_1 => ?_) (fun c_1 => ?_)
  · skip
    exact absurd c_1 (nI_pos (by omega))
  · skip
    refine lv_iload_n hx hb d_QU_isReady_4 rfl (lv_at hl 1 rfl) ?_
    refine lv_aload_n hx hb d_QU_isReady_5 rfl (lv_at hl 0 rfl) ?_
    refine fh_get hx hb hG C_QU iG_QU hown hK hP hc 0 (by decide) gm81 rfl d_QU_isReady_6 ?_
    refine fh_callV (C := R_AL) (y := y_AL_size) (bytes := b_AL_size) (maxL := 1) (ret := (some .int)) (index := 18) (As := []) (rest := [.int (nI k)]) ⟨hx, hb, hml, hown, hG⟩ (c_AL_size l E h al (.ref arr) (nI rqs.length) md ha) (cwV 0 hG (gV gm164 gm165 gm166 gm5 gm167) rfl rfl rfl ⟨rfl, hdy_AL_size⟩ ⟨Nat.le_of_ble_eq_true rfl, Nat.le_of_ble_eq_true rfl⟩) C_AL.1 ha hK hZ hP hS hA rfl hl.1 rfl (Nat.le_of_ble_eq_true rfl) d_QU_isReady_9 ⟨Nat.le_of_ble_eq_true rfl, Nat.le_of_ble_eq_true rfl⟩ (fun r h1 H locs hq9 hP hS => ?_)
    obtain ⟨rfl, e9⟩ := hq9
    rw [e9] at hP
    refine W.eq (g2 := F0 m 12 ls [.int (nI rqs.length), .int (nI k)]) rfl ?_
    refine lv_icmp_lt (tgt := 17) hx hb d_QU_isReady_12 (by decide) (fun c_2 => ?_) (fun c_2 => ?_)
    · skip
      refine lv_aload_n hx hb d_QU_isReady_17 rfl (lv_at hl 0 rfl) ?_
      refine fh_get hx hb hG C_QU iG_QU hown hK hP hc 0 (by decide) gm81 rfl d_QU_isReady_18 ?_
      refine lv_iload_n hx hb d_QU_isReady_21 rfl (lv_at hl 1 rfl) ?_
      refine fh_callV (C := R_AL) (y := y_AL_get) (bytes := b_AL_get) (maxL := 2) (ret := (some (.object "java/lang/Object"))) (index := 22) (As := [.int (nI k)]) (rest := []) ⟨hx, hb, hml, hown, hG⟩ (c_AL_get l E h al arr (rqs.map (·.1)) k r0.1 hL (mp_at hr9)) (cwV 1 hG (gV gm184 gm185 gm186 gm5 gm187) rfl rfl rfl ⟨rfl, hdy_AL_get⟩ ⟨Nat.le_of_ble_eq_true rfl, Nat.le_of_ble_eq_true rfl⟩) C_AL.1 ha hK hZ hP hS hA rfl hl.1 rfl (Nat.le_of_ble_eq_true rfl) d_QU_isReady_22 ⟨Nat.le_of_ble_eq_true rfl, Nat.le_of_ble_eq_true rfl⟩ (fun r h1 H locs hq9 hP hS => ?_)
      obtain ⟨rfl, e9⟩ := hq9
      rw [e9] at hP
      refine W.eq (g2 := F0 m 25 ls [.ref r0.1]) rfl ?_
      refine va_castY (C := R_RQ) hx hb hown (hG _ gm198) (fhK hZ _ (by simp [fhCast])) (fh_recv hK hP C_RQ.1 kr) d_QU_isReady_25 ?_
      refine lv_astore_n (lv' := [(2, .ref r0.1), (0, .ref qu), (1, .int (nI k))]) hx hb d_QU_isReady_28 rfl hl (by decide) rfl (fun ls hl => ?_)
      refine lv_aload_n hx hb d_QU_isReady_29 rfl (lv_at hl 0 rfl) ?_
      refine fh_get hx hb hG C_RQ iG_RQ hown hK hP kr 1 (by decide) gm557 rfl d_QU_isReady_30 ?_
      refine lv_iconst (v := 2) hx hb d_QU_isReady_33 (by decide) ?_
      refine lv_icmp_ne (tgt := 47) hx hb d_QU_isReady_34 (by decide) (fun c_3 => ?_) (fun c_3 => ?_)
      · skip
        refine lv_iconst (v := 0) hx hb d_QU_isReady_47 (by decide) ?_
        refine lv_istore_n (lv' := [(3, .int 0), (2, .ref r0.1), (0, .ref qu), (1, .int (nI k))]) hx hb d_QU_isReady_48 rfl hl (by decide) rfl (fun ls hl => ?_)
        have loop : ∀ (n i : Nat) (H : Heap) (locs : List Loc) (ls : Array Slot), i + n = k → ((rqs.map (·.2)).take i).all (fun s => s.2.1 != 2 && s.2.2.1 != r0.2.2.2.1) = true → lv_has ls 5 [(3, .int (nI i)), (2, .ref r0.1), (0, .ref qu), (1, .int (nI k))] → fh_P E.1 vwCl A h H → va_S A s.heap H locs → W p l e ({ frames := 3, cells := 0, slots := 0, locals := 64 }) s m ([.ref qu, .int (nI k)] : List Value).toArray below meth c H locs 0 0 (MQ below (fh_Post E (fun r h1 => r = some (.int (if rdy (rqs.map (·.2)) k = true then 1 else 0)) ∧ h1 = h) A) ([.ref qu, .int (nI k)] : List Value).toArray s 0 0 A) (F0 m 49 ls []) := by
          intro n
          induction n with
          | zero =>
            intro i H locs ls hin hinv hl hP hS
            refine lv_iload_n hx hb d_QU_isReady_49 rfl (lv_at hl 0 rfl) ?_
            refine lv_iload_n hx hb d_QU_isReady_50 rfl (lv_at hl 3 rfl) ?_
            refine lv_icmp_ge (tgt := 96) hx hb d_QU_isReady_51 (by decide) (fun c_4 => ?_) (fun c_4 => ?_)
            · skip
              refine lv_iconst (v := 1) hx hb d_QU_isReady_96 (by decide) ?_
              exact fh_zret hx hb hr rfl hlocks (Nat.le_of_ble_eq_true rfl) (Nat.le_of_ble_eq_true rfl) hP hS ⟨by rw [show i = k by omega] at hinv; rw [hrd, hinv]; simp [c_3], rfl⟩ d_QU_isReady_97
            · exact absurd (nI_le (by omega) (by omega)) c_4
          | succ n ih =>
            intro i H locs ls hin hinv hl hP hS
            refine lv_iload_n hx hb d_QU_isReady_49 rfl (lv_at hl 0 rfl) ?_
            refine lv_iload_n hx hb d_QU_isReady_50 rfl (lv_at hl 3 rfl) ?_
            refine lv_icmp_ge (tgt := 96) hx hb d_QU_isReady_51 (by decide) (fun c_5 => ?_) (fun c_5 => ?_)
            · exact absurd ((nI_leI (by omega) (by omega)).mp c_5) (by omega)
            · obtain ⟨c0, hc0⟩ := mp_get (xs := rqs) (i := i) (by omega)
              have kc := hP1 c0 (List.mem_of_getElem? hc0)
              refine lv_aload_n hx hb d_QU_isReady_54 rfl (lv_at hl 2 rfl) ?_
              refine fh_get hx hb hG C_QU iG_QU hown hK hP hc 0 (by decide) gm81 rfl d_QU_isReady_55 ?_
              refine lv_iload_n hx hb d_QU_isReady_58 rfl (lv_at hl 0 rfl) ?_
              refine fh_callV (C := R_AL) (y := y_AL_get) (bytes := b_AL_get) (maxL := 2) (ret := (some (.object "java/lang/Object"))) (index := 22) (As := [.int (nI i)]) (rest := []) ⟨hx, hb, hml, hown, hG⟩ (c_AL_get l E h al arr (rqs.map (·.1)) i c0.1 hL (mp_at hc0)) (cwV 1 hG (gV gm184 gm185 gm186 gm5 gm187) rfl rfl rfl ⟨rfl, hdy_AL_get⟩ ⟨Nat.le_of_ble_eq_true rfl, Nat.le_of_ble_eq_true rfl⟩) C_AL.1 ha hK hZ hP hS hA rfl hl.1 rfl (Nat.le_of_ble_eq_true rfl) d_QU_isReady_59 ⟨Nat.le_of_ble_eq_true rfl, Nat.le_of_ble_eq_true rfl⟩ (fun r h1 H locs hq9 hP hS => ?_)
              obtain ⟨rfl, e9⟩ := hq9
              rw [e9] at hP
              refine W.eq (g2 := F0 m 62 ls [.ref c0.1]) rfl ?_
              refine va_castY (C := R_RQ) hx hb hown (hG _ gm198) (fhK hZ _ (by simp [fhCast])) (fh_recv hK hP C_RQ.1 kc) d_QU_isReady_62 ?_
              refine lv_astore (lv' := [(4, .ref c0.1), (3, .int (nI i)), (2, .ref r0.1), (0, .ref qu), (1, .int (nI k))]) hx hb d_QU_isReady_65 hl (by decide) rfl (fun ls hl => ?_)
              refine lv_aload hx hb d_QU_isReady_67 (lv_at hl 0 rfl) ?_
              refine fh_get hx hb hG C_RQ iG_RQ hown hK hP kc 1 (by decide) gm557 rfl d_QU_isReady_69 ?_
              refine lv_iconst (v := 2) hx hb d_QU_isReady_72 (by decide) ?_
              refine lv_icmp_eq (tgt := 88) hx hb d_QU_isReady_73 (by decide) (fun c_6 => ?_) (fun c_6 => ?_)
              · skip
                refine lv_iconst (v := 0) hx hb d_QU_isReady_88 (by decide) ?_
                exact fh_zret hx hb hr rfl hlocks (Nat.le_of_ble_eq_true rfl) (Nat.le_of_ble_eq_true rfl) hP hS ⟨by rw [hrd, tk_nall (rq_at hc0) (by omega) (by simp [c_6])]; simp, rfl⟩ d_QU_isReady_89
              · skip
                refine lv_aload hx hb d_QU_isReady_76 (lv_at hl 0 rfl) ?_
                refine fh_get hx hb hG C_RQ iG_RQ hown hK hP kc 2 (by decide) gm561 rfl d_QU_isReady_78 ?_
                refine lv_aload_n hx hb d_QU_isReady_81 rfl (lv_at hl 2 rfl) ?_
                refine fh_get hx hb hG C_RQ iG_RQ hown hK hP kr 2 (by decide) gm561 rfl d_QU_isReady_82 ?_
                refine lv_icmp_ne (tgt := 90) hx hb d_QU_isReady_85 (by decide) (fun c_7 => ?_) (fun c_7 => ?_)
                · skip
                  refine lv_iinc (v := ((nI i)) + 1) (lv' := [(3, .int (((nI i)) + 1)), (4, .ref c0.1), (2, .ref r0.1), (0, .ref qu), (1, .int (nI k))]) hx hb d_QU_isReady_90 hl (k := 1) rfl rfl (by decide) rfl (fun ls hl => ?_)
                  refine lv_goto (tgt := 49) hx hb d_QU_isReady_93 (by decide) ?_
                  exact ih (i + 1) _ _ _ (by omega) (tk_all (rq_at hc0) hinv (by simp [c_6, c_7])) (by rw [← nI_1]; exact lv_sub hl [0, 2, 3, 4] rfl) hP hS
                · skip
                  refine lv_iconst (v := 0) hx hb d_QU_isReady_88 (by decide) ?_
                  exact fh_zret hx hb hr rfl hlocks (Nat.le_of_ble_eq_true rfl) (Nat.le_of_ble_eq_true rfl) hP hS ⟨by rw [hrd, tk_nall (rq_at hc0) (by omega) (by simp [c_7])]; simp, rfl⟩ d_QU_isReady_89
        exact loop k 0 _ _ _ (by omega) rfl (by rw [nI_0]; exact lv_sub hl [0, 1, 2, 3] rfl) hP hS
      · skip
        refine lv_iload_n hx hb d_QU_isReady_37 rfl (lv_at hl 2 rfl) ?_
        refine lv_if_ne (tgt := 45) hx hb d_QU_isReady_38 (by decide) (fun c_8 => ?_) (fun c_8 => ?_)
        · skip
          refine lv_iconst (v := 0) hx hb d_QU_isReady_45 (by decide) ?_
          exact fh_zret hx hb hr rfl hlocks (Nat.le_of_ble_eq_true rfl) (Nat.le_of_ble_eq_true rfl) hP hS ⟨by rw [hrd]; have : ¬ k = 0 := (fun z => c_8 (by rw [z, nI_0])); simp [c_3, this], rfl⟩ d_QU_isReady_46
        · skip
          refine lv_iconst (v := 1) hx hb d_QU_isReady_41 (by decide) ?_
          refine lv_goto (tgt := 46) hx hb d_QU_isReady_42 (by decide) ?_
          exact fh_zret hx hb hr rfl hlocks (Nat.le_of_ble_eq_true rfl) (Nat.le_of_ble_eq_true rfl) hP hS ⟨by rw [hrd]; have : k = 0 := (nI_eq (by omega) (by decide)).mp (c_8.trans nI_0.symm); simp [this], rfl⟩ d_QU_isReady_46
    · skip
      exact absurd (nI_lt hk (by omega)) c_2
