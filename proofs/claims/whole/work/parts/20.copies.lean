/-! THE CLASS's LISTS: copies and requests, by address and contents. -/
abbrev tC : Type := Nat × Int32 × Int32 × Int32
abbrev tQ : Type := Nat × Int32 × Int32 × Int32 × Int32 × Int32
def CPs (h : fh_H) (cps : List tC) : Prop := ∀ c ∈ cps, h c.1 = some (.inr (1, [.int c.2.1, .int c.2.2.1, .int c.2.2.2]))
def RQs (h : fh_H) (rqs : List tQ) : Prop := ∀ r ∈ rqs, h r.1 = some (.inr (3, [.int r.2.1, .int r.2.2.1, .int r.2.2.2.1, .int r.2.2.2.2.1, .int r.2.2.2.2.2, .int 0]))
def CLs (E : fh_E) (h : fh_H) (cs al arr : Nat) (cps : List tC) : Prop := h cs = some (.inr (2, [.ref al])) ∧ LI E h al arr (cps.map (·.1)) ∧ CPs h cps
def QLs (E : fh_E) (h : fh_H) (qu al arr : Nat) (rqs : List tQ) : Prop := h qu = some (.inr (4, [.ref al])) ∧ LI E h al arr (rqs.map (·.1)) ∧ RQs h rqs
/-- what a change of a list leaves: all but its own cell, its array, and a new array -/
def LFr (h h1 : fh_H) (al arr arr' : Nat) : Prop := (∀ b, b ≠ al → b ≠ arr → b ≠ arr' → h1 b = h b) ∧ (arr' = arr ∨ h arr' = none) ∧ Dm h h1
theorem LFr.ob {h h1 : fh_H} {al arr arr' b i : Nat} {fs gs : List Value} (hF1 : ∀ b, b ≠ al → b ≠ arr → b ≠ arr' → h1 b = h b) (hF2 : arr' = arr ∨ h arr' = none) (hal : h al = some (.inr (0, fs))) (har : (∃ x, h arr = some x) → ∃ x, h arr = some (.inl x)) (hb : h b = some (.inr (i, gs))) (hi : i ≠ 0) : h1 b = some (.inr (i, gs)) := by
  have n1 : b ≠ al := fh_ne hb hal hi
  have n2 : b ≠ arr := by
    intro z
    obtain ⟨x, hx⟩ := har ⟨_, by rw [← z]; exact hb⟩
    rw [← z, hb] at hx
    cases hx
  have n3 : b ≠ arr' := by
    rcases hF2 with z | z
    · rw [z]; exact n2
    · exact fh_neF hb z
  exact (hF1 b n1 n2 n3).trans hb
theorem LFr.obj {h h1 : fh_H} {al arr arr' b i : Nat} {fs gs : List Value} (hF : LFr h h1 al arr arr') (hal : h al = some (.inr (0, fs))) (har : (∃ x, h arr = some x) → ∃ x, h arr = some (.inl x)) (hb : h b = some (.inr (i, gs))) (hi : i ≠ 0) : h1 b = some (.inr (i, gs)) := LFr.ob hF.1 hF.2.1 hal har hb hi
theorem LI.isArr {E : fh_E} {h : fh_H} {al arr : Nat} {xs : List Nat} (hL : LI E h al arr xs) (hed : h (fh_ed E) = none) : (∃ x, h arr = some x) → ∃ x, h arr = some (.inl x) := by
  obtain ⟨md, cap, f, k1, k2, k3, k4, k5⟩ := hL
  rintro ⟨x, hx⟩
  rcases k5 with ⟨k5, -⟩ | ⟨-, k6⟩
  · rw [k5, hed] at hx; cases hx
  · exact ⟨_, k6⟩
theorem CPs.EO {h : fh_H} {cps : List tC} (hC : CPs h cps) : ∀ x ∈ cps.map (·.1), EO h x := by
  intro x hx
  obtain ⟨c, hc, rfl⟩ := List.mem_map.mp hx
  exact Or.inl ⟨_, hC c hc⟩
theorem RQs.EO {h : fh_H} {rqs : List tQ} (hC : RQs h rqs) : ∀ x ∈ rqs.map (·.1), EO h x := by
  intro x hx
  obtain ⟨c, hc, rfl⟩ := List.mem_map.mp hx
  exact Or.inr ⟨_, hC c hc⟩
theorem mp_at {α : Type} {xs : List (Nat × α)} {i : Nat} {c : Nat × α} (h : xs[i]? = some c) : (xs.map (·.1))[i]? = some c.1 := by rw [List.getElem?_map, h]; rfl
theorem mp_len {α : Type} (xs : List (Nat × α)) : (xs.map (·.1)).length = xs.length := List.length_map _
theorem mp_get {α : Type} {xs : List α} {i : Nat} (h : i < xs.length) : ∃ c, xs[i]? = some c := ⟨xs[i], List.getElem?_eq_getElem h⟩
theorem dr_cons {α : Type} {xs : List α} {i : Nat} {c : α} (h : xs[i]? = some c) : xs.drop i = c :: xs.drop (i + 1) := by
  obtain ⟨hi, hc⟩ := List.getElem?_eq_some_iff.mp h
  rw [← hc]
  exact List.drop_eq_getElem_cons hi
theorem fd_pos {α : Type} {p : α → Bool} {xs : List α} {i : Nat} {c : α} (hinv : xs.find? p = (xs.drop i).find? p) (h : xs[i]? = some c) (hp : p c = true) : xs.find? p = some c := by
  rw [hinv, dr_cons h, List.find?_cons_of_pos hp]
theorem fd_neg {α : Type} {p : α → Bool} {xs : List α} {i : Nat} {c : α} (hinv : xs.find? p = (xs.drop i).find? p) (h : xs[i]? = some c) (hp : ¬ p c = true) : xs.find? p = (xs.drop (i + 1)).find? p := by
  rw [hinv, dr_cons h, List.find?_cons_of_neg hp]
theorem fd_end {α : Type} {p : α → Bool} {xs : List α} {i : Nat} (hinv : xs.find? p = (xs.drop i).find? p) (h : xs.length ≤ i) : xs.find? p = none := by
  rw [hinv, List.drop_eq_nil_of_le h]; rfl
theorem ep_pos {α : Type} {p : α → Bool} {xs : List α} {i : Nat} {c : α} (hinv : ∀ j d, j < i → xs[j]? = some d → p d = false) (h : xs[i]? = some c) (hp : p c = true) : xs.eraseP p = xs.eraseIdx i := by
  induction xs generalizing i with
  | nil => simp at h
  | cons x xs ih =>
    cases i with
    | zero =>
      simp at h
      subst h
      rw [List.eraseP_cons_of_pos hp]; rfl
    | succ i =>
      have hx : p x = false := hinv 0 x (by omega) rfl
      rw [List.eraseP_cons_of_neg (by rw [hx]; decide), List.eraseIdx_cons_succ, ih (fun j d hj hd => hinv (j + 1) d (by omega) hd) h]
theorem ep_end {α : Type} {p : α → Bool} {xs : List α} (hinv : ∀ j d, j < xs.length → xs[j]? = some d → p d = false) : xs.eraseP p = xs :=
  List.eraseP_of_forall_not (fun a ha => by
    obtain ⟨j, hj⟩ := List.getElem?_of_mem ha
    rw [hinv j a (List.getElem?_eq_some_iff.mp hj).1 hj]; decide)
theorem er_map {α : Type} (xs : List (Nat × α)) (i : Nat) : (xs.map (·.1)).eraseIdx i = (xs.eraseIdx i).map (·.1) := by
  apply List.ext_getElem?
  intro j
  simp only [List.getElem?_map, List.getElem?_eraseIdx]
  split <;> rfl
def atI {α : Type} (xs : List α) (i : Int32) : Option α := if i < 0 then none else xs[i.toNatClampNeg]?
theorem atI_neg {α : Type} {xs : List α} {i : Int32} (h : i < 0) : atI xs i = none := if_pos h
theorem atI_nI {α : Type} {xs : List α} {n : Nat} (h : n < 2 ^ 31) : atI xs (nI n) = xs[n]? := by
  unfold atI
  rw [if_neg (nI_pos h), nI_clamp h]
theorem atI_big {α : Type} {xs : List α} {i : Int32} (h0 : ¬ i < 0) (hl : xs.length < 2 ^ 31) (h : ¬ i < nI xs.length) : atI xs i = none := by
  obtain ⟨n, hn, rfl⟩ := nI_of h0
  rw [atI_nI hn]
  refine List.getElem?_eq_none ?_
  rcases Nat.lt_or_ge n xs.length with z | z
  · exact absurd (nI_lt z hl) h
  · exact z
theorem rf_some {α : Type} {o : Option (Nat × α)} {c : Nat × α} (h : o = some c) : va_rf (o.map (·.1)) = .ref c.1 := by rw [h]; rfl
theorem rf_none {α : Type} {o : Option (Nat × α)} (h : o = none) : va_rf (o.map (·.1)) = .null := by rw [h]; rfl

set_option maxHeartbeats 4000000 in
set_option maxRecDepth 100000 in
theorem c_CP_init (l : Launch) (E : fh_E) (h : fh_H) (q : Nat) (b v : Int32) (v0 v1 v2 : Value) (ha : h q = some (.inr (1, [v0, v1, v2]))) : fh_Met l y_CP_init w_CP_init ({ frames := 1, cells := 0, slots := 0, locals := 12 }) E [.ref q, .int b, .int v] h (fun r h1 => r = none ∧ h1 = va_up h q (some (.inr (1, [.int b, .int v, v2])))) 0 0 := by
  refine fh_ofW (cc := b_CP_init) (maxL := 3) (ret := none) (by decide) rfl (Nat.le_of_ble_eq_true rfl) ?_
  intro p e s m below meth c A ls hx hb hr hml hown hts hlocks hname hnoh hadm hA hK hZ hP hS hl
  have hG : ∀ w ∈ G, w.before _ s = true := fun w hw => hts w (List.mem_cons_of_mem _ hw)
  have hown : s.vm.findClass R_CP = some m.cls := hown
  have hl : lv_has ls 3 [(0, .ref q), (1, .int b), (2, .int v)] := hl
  refine lv_aload_n hx hb d_CP_init_0 rfl (lv_at hl 0 rfl) ?_
  refine W.objInit hx hb hown (hG _ gm271) (hG _ gm29) (hG _ gm30) rfl (by rw [hml]; exact hl.1) rfl d_CP_init_1 (Nat.le_of_ble_eq_true rfl) (Nat.le_of_ble_eq_true rfl) ?_
  refine W.eq (g2 := F0 m 4 ls []) rfl ?_
  refine lv_aload_n hx hb d_CP_init_4 rfl (lv_at hl 0 rfl) ?_
  refine lv_iload_n hx hb d_CP_init_5 rfl (lv_at hl 1 rfl) ?_
  refine fh_putF hx hb hG C_CP iG_CP hown hK hP hS ha 0 (by decide) gm272 rfl hname rfl (v := .int b) rfl rfl (Nat.le_of_ble_eq_true rfl) d_CP_init_6 (fun H locs hP hS => ?_)
  obtain ⟨h_1, eh_2⟩ : ∃ z : fh_H, z = va_up h q (some (.inr (1, [.int b, v1, v2]))) := ⟨_, rfl⟩
  have hP : fh_P E.1 vwCl A h_1 H := by rw [eh_2]; exact hP
  have k_3 : h_1 q = some (.inr (1, [.int b, v1, v2])) := by rw [eh_2]; exact va_up_self _ _ _
  refine lv_aload_n hx hb d_CP_init_9 rfl (lv_at hl 0 rfl) ?_
  refine lv_iload_n hx hb d_CP_init_10 rfl (lv_at hl 2 rfl) ?_
  refine fh_put hx hb hG C_CP iG_CP hown hK hP hS k_3 1 (by decide) gm276 rfl (v := .int v) rfl rfl (Nat.le_of_ble_eq_true rfl) d_CP_init_11 (fun H locs hP hS => ?_)
  obtain ⟨h_4, eh_5⟩ : ∃ z : fh_H, z = va_up h_1 q (some (.inr (1, [.int b, .int v, v2]))) := ⟨_, rfl⟩
  have hP : fh_P E.1 vwCl A h_4 H := by rw [eh_5]; exact hP
  have k_6 : h_4 q = some (.inr (1, [.int b, .int v, v2])) := by rw [eh_5]; exact va_up_self _ _ _
  exact fh_vret hx hb hr hlocks (Nat.le_of_ble_eq_true rfl) (Nat.le_of_ble_eq_true rfl) hP hS ⟨rfl, by rw [eh_5, eh_2, bx_uu]⟩ d_CP_init_14

set_option maxHeartbeats 4000000 in
set_option maxRecDepth 100000 in
theorem c_CS_init (l : Launch) (E : fh_E) (h : fh_H) (cs : Nat) (v0 : Value) (hc : h cs = some (.inr (2, [v0]))) : fh_Met l y_CS_init w_CS_init ({ frames := 4, cells := 1, slots := 3, locals := 72 }) E [.ref cs] h (fun r h1 => r = none ∧ ∃ al, CLs E h1 cs al (fh_ed E) [] ∧ h al = none ∧ ∀ b, b ≠ cs → b ≠ al → h1 b = h b) 1 3 := by
  refine fh_ofW (cc := b_CS_init) (maxL := 1) (ret := none) (by decide) rfl (Nat.le_of_ble_eq_true rfl) ?_
  intro p e s m below meth c A ls hx hb hr hml hown hts hlocks hname hnoh hadm hA hK hZ hP hS hl
  have hG : ∀ w ∈ G, w.before _ s = true := fun w hw => hts w (List.mem_cons_of_mem _ hw)
  have hown : s.vm.findClass R_CS = some m.cls := hown
  have hl : lv_has ls 1 [(0, .ref cs)] := hl
  refine lv_aload_n hx hb d_CS_init_0 rfl (lv_at hl 0 rfl) ?_
  refine W.objInit hx hb hown (hG _ gm36) (hG _ gm29) (hG _ gm30) rfl (by rw [hml]; exact hl.1) rfl d_CS_init_1 (Nat.le_of_ble_eq_true rfl) (Nat.le_of_ble_eq_true rfl) ?_
  refine W.eq (g2 := F0 m 4 ls []) rfl ?_
  refine lv_aload_n hx hb d_CS_init_4 rfl (lv_at hl 0 rfl) ?_
  refine fh_new hx hb hG C_AL iG_AL hown gm37 gm38 gm5 hK hP hS hA (fs := [.null, .int 0, .int 0]) (fun j hj => by rcases (show j = 0 ∨ j = 1 ∨ j = 2 by omega) with rfl | rfl | rfl <;> rfl) (Nat.le_of_ble_eq_true rfl) (Nat.le_of_ble_eq_true rfl) d_CS_init_5 (fun al H hf_1 hP hS => ?_)
  obtain ⟨h_2, eh_3⟩ : ∃ z : fh_H, z = va_up h al (some (.inr (0, [.null, .int 0, .int 0]))) := ⟨_, rfl⟩
  have hP : fh_P E.1 vwCl A h_2 H := by rw [eh_3]; exact hP
  have k_4 : h_2 cs = some (.inr (2, [v0])) := by rw [eh_3]; exact fh_up hc (fh_neF hc hf_1)
  have k_5 : h_2 al = some (.inr (0, [.null, .int 0, .int 0])) := by rw [eh_3]; exact va_up_self _ _ _
  refine lv_dup hx hb d_CS_init_8 rfl ?_
  refine fh_callI (b := al) (y := y_AL_init) (bytes := b_AL_init) (maxL := 1) (index := 9) (As := []) (rest := [.ref al, .ref cs]) ⟨hx, hb, hml, hown, hG⟩ (c_AL_init l E h_2 al .null (.int 0) k_5) (cwI 0 hG (gB gm41) rfl rfl rfl (hG _ gm5) (hG _ gm39) (hG _ gm40) rfl hdy_AL_init ⟨Nat.le_of_ble_eq_true rfl, Nat.le_of_ble_eq_true rfl⟩) hK hZ hP hS hA rfl hl.1 rfl (Nat.le_of_ble_eq_true rfl) d_CS_init_9 ⟨Nat.le_of_ble_eq_true rfl, Nat.le_of_ble_eq_true rfl⟩ (fun r h1 H locs hq9 hP hS => ?_)
  obtain ⟨rfl, g1, g2⟩ := hq9
  refine W.eq (g2 := F0 m 12 ls [.ref al, .ref cs]) rfl ?_
  have kc : h1 cs = some (.inr (2, [v0])) := (g2 cs (fh_neF hc hf_1)).trans k_4
  refine fh_putF hx hb hG C_CS iG_CS hown hK hP hS kc 0 (by decide) gm63 rfl hname rfl (v := .ref al) rfl rfl (Nat.le_of_ble_eq_true rfl) d_CS_init_12 (fun H locs hP hS => ?_)
  obtain ⟨h_6, eh_7⟩ : ∃ z : fh_H, z = va_up h1 cs (some (.inr (2, [.ref al]))) := ⟨_, rfl⟩
  have hP : fh_P E.1 vwCl A h_6 H := by rw [eh_7]; exact hP
  have k_8 : h_6 cs = some (.inr (2, [.ref al])) := by rw [eh_7]; exact va_up_self _ _ _
  refine fh_vret hx hb hr hlocks (Nat.le_of_ble_eq_true rfl) (Nat.le_of_ble_eq_true rfl) hP hS ⟨rfl, al, ⟨k_8, ?_, fun _ z => absurd z List.not_mem_nil⟩, hf_1, ?_⟩ d_CS_init_15
  · obtain ⟨md, ha⟩ := g1.al
    obtain ⟨md2, cap, f, k1, k2, k3, k4, k5⟩ := g1
    refine ⟨md2, cap, f, ?_, k2, k3, k4, ?_⟩
    · rw [eh_7]; exact (va_up_ne _ _ (fh_ne k1 kc (by decide))).trans k1
    · rcases k5 with k5 | ⟨k5, k6⟩
      · exact Or.inl k5
      · exact Or.inr ⟨k5, by rw [eh_7]; exact (va_up_ne _ _ (fh_neA k6 kc)).trans k6⟩
  · intro b z1 z2
    rw [eh_7, va_up_ne _ _ z1, g2 b z2, eh_3, va_up_ne _ _ z2]

set_option maxHeartbeats 4000000 in
set_option maxRecDepth 100000 in
theorem c_CS_size (l : Launch) (E : fh_E) (h : fh_H) (cs al arr : Nat) (cps : List tC) (hC : CLs E h cs al arr cps) (h48 : cps.length ≤ 48) : fh_Met l y_CS_size w_CS_size ({ frames := 1, cells := 0, slots := 0, locals := 20 }) E [.ref cs] h (fun r h1 => r = some (.int (nI cps.length)) ∧ h1 = h) 0 0 := by
  refine fh_ofW (cc := b_CS_size) (maxL := 1) (ret := (some .int)) (by decide) rfl (Nat.le_of_ble_eq_true rfl) ?_
  intro p e s m below meth c A ls hx hb hr hml hown hts hlocks hname hnoh hadm hA hK hZ hP hS hl
  have hG : ∀ w ∈ G, w.before _ s = true := fun w hw => hts w (List.mem_cons_of_mem _ hw)
  have hown : s.vm.findClass R_CS = some m.cls := hown
  have hl : lv_has ls 1 [(0, .ref cs)] := hl
  obtain ⟨hc, hL, hP1⟩ := hC
  obtain ⟨md, ha⟩ := hL.al
  rw [mp_len] at ha
  refine lv_aload_n hx hb d_CS_size_0 rfl (lv_at hl 0 rfl) ?_
  refine fh_get hx hb hG C_CS iG_CS hown hK hP hc 0 (by decide) gm63 rfl d_CS_size_1 ?_
  refine fh_callV (C := R_AL) (y := y_AL_size) (bytes := b_AL_size) (maxL := 1) (ret := (some .int)) (index := 16) (As := []) (rest := []) ⟨hx, hb, hml, hown, hG⟩ (c_AL_size l E h al (.ref arr) (nI cps.length) md ha) (cwV 0 hG (gV gm244 gm165 gm166 gm5 gm167) rfl rfl rfl ⟨rfl, hdy_AL_size⟩ ⟨Nat.le_of_ble_eq_true rfl, Nat.le_of_ble_eq_true rfl⟩) C_AL.1 ha hK hZ hP hS hA rfl hl.1 rfl (Nat.le_of_ble_eq_true rfl) d_CS_size_4 ⟨Nat.le_of_ble_eq_true rfl, Nat.le_of_ble_eq_true rfl⟩ (fun r h1 H locs hq9 hP hS => ?_)
  obtain ⟨rfl, e9⟩ := hq9
  rw [e9] at hP
  refine W.eq (g2 := F0 m 7 ls [.int (nI cps.length)]) rfl ?_
  exact fh_iret hx hb hr hlocks (Nat.le_of_ble_eq_true rfl) (Nat.le_of_ble_eq_true rfl) hP hS ⟨rfl, rfl⟩ d_CS_size_7

set_option maxHeartbeats 4000000 in
set_option maxRecDepth 100000 in
theorem c_CS_at (l : Launch) (E : fh_E) (h : fh_H) (cs al arr : Nat) (cps : List tC) (hC : CLs E h cs al arr cps) (h48 : cps.length ≤ 48) (i : Int32) : fh_Met l y_CS_at w_CS_at ({ frames := 3, cells := 0, slots := 0, locals := 64 }) E [.ref cs, .int i] h (fun r h1 => r = some (va_rf ((atI cps i).map (·.1))) ∧ h1 = h) 0 0 := by
  refine fh_ofW (cc := b_CS_at) (maxL := 2) (ret := (some (.object "BlockLayer$Copy"))) (by decide) rfl (Nat.le_of_ble_eq_true rfl) ?_
  intro p e s m below meth c A ls hx hb hr hml hown hts hlocks hname hnoh hadm hA hK hZ hP hS hl
  have hG : ∀ w ∈ G, w.before _ s = true := fun w hw => hts w (List.mem_cons_of_mem _ hw)
  have hown : s.vm.findClass R_CS = some m.cls := hown
  have hl : lv_has ls 2 [(0, .ref cs), (1, .int i)] := hl
  obtain ⟨hc, hL, hP1⟩ := hC
  obtain ⟨md, ha⟩ := hL.al
  rw [mp_len] at ha
  refine lv_iload_n hx hb d_CS_at_0 rfl (lv_at hl 1 rfl) ?_
  refine lv_if_lt (tgt := 15) hx hb d_CS_at_1 (by decide) (fun c_1 => ?_) (fun c_1 => ?_)
  · skip
    refine lv_null hx hb d_CS_at_15 ?_
    refine lv_goto (tgt := 30) hx hb d_CS_at_16 (by decide) ?_
    exact fh_aret hx hb hr (Or.inl ⟨_, rfl⟩) (Or.inl rfl) hlocks (Nat.le_of_ble_eq_true rfl) (Nat.le_of_ble_eq_true rfl) hP hS ⟨by rw [rf_none (atI_neg c_1)], rfl⟩ d_CS_at_30
  · skip
    refine lv_iload_n hx hb d_CS_at_4 rfl (lv_at hl 1 rfl) ?_
    refine lv_aload_n hx hb d_CS_at_5 rfl (lv_at hl 0 rfl) ?_
    refine fh_get hx hb hG C_CS iG_CS hown hK hP hc 0 (by decide) gm63 rfl d_CS_at_6 ?_
    refine fh_callV (C := R_AL) (y := y_AL_size) (bytes := b_AL_size) (maxL := 1) (ret := (some .int)) (index := 16) (As := []) (rest := [.int i]) ⟨hx, hb, hml, hown, hG⟩ (c_AL_size l E h al (.ref arr) (nI cps.length) md ha) (cwV 0 hG (gV gm244 gm165 gm166 gm5 gm167) rfl rfl rfl ⟨rfl, hdy_AL_size⟩ ⟨Nat.le_of_ble_eq_true rfl, Nat.le_of_ble_eq_true rfl⟩) C_AL.1 ha hK hZ hP hS hA rfl hl.1 rfl (Nat.le_of_ble_eq_true rfl) d_CS_at_9 ⟨Nat.le_of_ble_eq_true rfl, Nat.le_of_ble_eq_true rfl⟩ (fun r h1 H locs hq9 hP hS => ?_)
    obtain ⟨rfl, e9⟩ := hq9
    rw [e9] at hP
    refine W.eq (g2 := F0 m 12 ls [.int (nI cps.length), .int i]) rfl ?_
    refine lv_icmp_lt (tgt := 19) hx hb d_CS_at_12 (by decide) (fun c_2 => ?_) (fun c_2 => ?_)
    · skip
      obtain ⟨n, hn, rfl⟩ := nI_of c_1
      have hlt : n < cps.length := (nI_ltI hn (by omega)).mp c_2
      obtain ⟨c0, hc0⟩ := mp_get hlt
      have kc := hP1 c0 (List.mem_of_getElem? hc0)
      refine lv_aload_n hx hb d_CS_at_19 rfl (lv_at hl 0 rfl) ?_
      refine fh_get hx hb hG C_CS iG_CS hown hK hP hc 0 (by decide) gm63 rfl d_CS_at_20 ?_
      refine lv_iload_n hx hb d_CS_at_23 rfl (lv_at hl 1 rfl) ?_
      refine fh_callV (C := R_AL) (y := y_AL_get) (bytes := b_AL_get) (maxL := 2) (ret := (some (.object "java/lang/Object"))) (index := 20) (As := [.int (nI n)]) (rest := []) ⟨hx, hb, hml, hown, hG⟩ (c_AL_get l E h al arr (cps.map (·.1)) n c0.1 hL (mp_at hc0)) (cwV 1 hG (gV gm264 gm185 gm186 gm5 gm187) rfl rfl rfl ⟨rfl, hdy_AL_get⟩ ⟨Nat.le_of_ble_eq_true rfl, Nat.le_of_ble_eq_true rfl⟩) C_AL.1 ha hK hZ hP hS hA rfl hl.1 rfl (Nat.le_of_ble_eq_true rfl) d_CS_at_24 ⟨Nat.le_of_ble_eq_true rfl, Nat.le_of_ble_eq_true rfl⟩ (fun r h1 H locs hq9 hP hS => ?_)
      obtain ⟨rfl, e9⟩ := hq9
      rw [e9] at hP
      refine W.eq (g2 := F0 m 27 ls [.ref c0.1]) rfl ?_
      refine va_castY (C := R_CP) hx hb hown (hG _ gm265) (fhK hZ _ (by simp [fhCast])) (fh_recv hK hP C_CP.1 kc) d_CS_at_27 ?_
      exact fh_aret hx hb hr (Or.inl ⟨_, rfl⟩) (Or.inr ⟨_, rfl⟩) hlocks (Nat.le_of_ble_eq_true rfl) (Nat.le_of_ble_eq_true rfl) hP hS ⟨by rw [rf_some ((atI_nI hn).trans hc0)], rfl⟩ d_CS_at_30
    · skip
      refine lv_null hx hb d_CS_at_15 ?_
      refine lv_goto (tgt := 30) hx hb d_CS_at_16 (by decide) ?_
      exact fh_aret hx hb hr (Or.inl ⟨_, rfl⟩) (Or.inl rfl) hlocks (Nat.le_of_ble_eq_true rfl) (Nat.le_of_ble_eq_true rfl) hP hS ⟨by rw [rf_none (atI_big c_1 (by omega) c_2)], rfl⟩ d_CS_at_30

set_option maxHeartbeats 4000000 in
set_option maxRecDepth 100000 in
theorem c_CS_copyOf (l : Launch) (E : fh_E) (h : fh_H) (cs al arr : Nat) (cps : List tC) (hC : CLs E h cs al arr cps) (h48 : cps.length ≤ 48) (b : Int32) : fh_Met l y_CS_copyOf w_CS_copyOf ({ frames := 3, cells := 0, slots := 0, locals := 64 }) E [.ref cs, .int b] h (fun r h1 => r = some (va_rf ((cps.find? (fun c => c.2.1 == b)).map (·.1))) ∧ h1 = h) 0 0 := by
  refine fh_ofW (cc := b_CS_copyOf) (maxL := 3) (ret := (some (.object "BlockLayer$Copy"))) (by decide) rfl (Nat.le_of_ble_eq_true rfl) ?_
  intro p e s m below meth c A ls hx hb hr hml hown hts hlocks hname hnoh hadm hA hK hZ hP hS hl
  have hG : ∀ w ∈ G, w.before _ s = true := fun w hw => hts w (List.mem_cons_of_mem _ hw)
  have hown : s.vm.findClass R_CS = some m.cls := hown
  have hl : lv_has ls 3 [(0, .ref cs), (1, .int b)] := hl
  obtain ⟨hc, hL, hP1⟩ := hC
  obtain ⟨md, ha⟩ := hL.al
  rw [mp_len] at ha
  refine lv_iconst (v := 0) hx hb d_CS_copyOf_0 (by decide) ?_
  refine lv_istore_n (lv' := [(2, .int 0), (0, .ref cs), (1, .int b)]) hx hb d_CS_copyOf_1 rfl hl (by decide) rfl (fun ls hl => ?_)
  have loop : ∀ (n i : Nat) (H : Heap) (locs : List Loc) (ls : Array Slot), i + n = cps.length → cps.find? (fun c => c.2.1 == b) = (cps.drop i).find? (fun c => c.2.1 == b) → lv_has ls 3 [(2, .int (nI i)), (0, .ref cs), (1, .int b)] → fh_P E.1 vwCl A h H → va_S A s.heap H locs → W p l e ({ frames := 3, cells := 0, slots := 0, locals := 64 }) s m ([.ref cs, .int b] : List Value).toArray below meth c H locs 0 0 (MQ below (fh_Post E (fun r h1 => r = some (va_rf ((cps.find? (fun c => c.2.1 == b)).map (·.1))) ∧ h1 = h) A) ([.ref cs, .int b] : List Value).toArray s 0 0 A) (F0 m 2 ls []) := by
    intro n
    induction n with
    | zero =>
      intro i H locs ls hin hinv hl hP hS
      refine lv_iload_n hx hb d_CS_copyOf_2 rfl (lv_at hl 0 rfl) ?_
      refine lv_aload_n hx hb d_CS_copyOf_3 rfl (lv_at hl 1 rfl) ?_
      refine fh_get hx hb hG C_CS iG_CS hown hK hP hc 0 (by decide) gm63 rfl d_CS_copyOf_4 ?_
      refine fh_callV (C := R_AL) (y := y_AL_size) (bytes := b_AL_size) (maxL := 1) (ret := (some .int)) (index := 16) (As := []) (rest := [.int (nI i)]) ⟨hx, hb, hml, hown, hG⟩ (c_AL_size l E h al (.ref arr) (nI cps.length) md ha) (cwV 0 hG (gV gm244 gm165 gm166 gm5 gm167) rfl rfl rfl ⟨rfl, hdy_AL_size⟩ ⟨Nat.le_of_ble_eq_true rfl, Nat.le_of_ble_eq_true rfl⟩) C_AL.1 ha hK hZ hP hS hA rfl hl.1 rfl (Nat.le_of_ble_eq_true rfl) d_CS_copyOf_7 ⟨Nat.le_of_ble_eq_true rfl, Nat.le_of_ble_eq_true rfl⟩ (fun r h1 H locs hq9 hP hS => ?_)
      obtain ⟨rfl, e9⟩ := hq9
      rw [e9] at hP
      refine W.eq (g2 := F0 m 10 ls [.int (nI cps.length), .int (nI i)]) rfl ?_
      refine lv_icmp_ge (tgt := 49) hx hb d_CS_copyOf_10 (by decide) (fun c_1 => ?_) (fun c_1 => ?_)
      · skip
        refine lv_null hx hb d_CS_copyOf_49 ?_
        exact fh_aret hx hb hr (Or.inl ⟨_, rfl⟩) (Or.inl rfl) hlocks (Nat.le_of_ble_eq_true rfl) (Nat.le_of_ble_eq_true rfl) hP hS ⟨by rw [rf_none (fd_end hinv (by omega))], rfl⟩ d_CS_copyOf_50
      · exact absurd (nI_le (by omega) (by omega)) c_1
    | succ n ih =>
      intro i H locs ls hin hinv hl hP hS
      refine lv_iload_n hx hb d_CS_copyOf_2 rfl (lv_at hl 0 rfl) ?_
      refine lv_aload_n hx hb d_CS_copyOf_3 rfl (lv_at hl 1 rfl) ?_
      refine fh_get hx hb hG C_CS iG_CS hown hK hP hc 0 (by decide) gm63 rfl d_CS_copyOf_4 ?_
      refine fh_callV (C := R_AL) (y := y_AL_size) (bytes := b_AL_size) (maxL := 1) (ret := (some .int)) (index := 16) (As := []) (rest := [.int (nI i)]) ⟨hx, hb, hml, hown, hG⟩ (c_AL_size l E h al (.ref arr) (nI cps.length) md ha) (cwV 0 hG (gV gm244 gm165 gm166 gm5 gm167) rfl rfl rfl ⟨rfl, hdy_AL_size⟩ ⟨Nat.le_of_ble_eq_true rfl, Nat.le_of_ble_eq_true rfl⟩) C_AL.1 ha hK hZ hP hS hA rfl hl.1 rfl (Nat.le_of_ble_eq_true rfl) d_CS_copyOf_7 ⟨Nat.le_of_ble_eq_true rfl, Nat.le_of_ble_eq_true rfl⟩ (fun r h1 H locs hq9 hP hS => ?_)
      obtain ⟨rfl, e9⟩ := hq9
      rw [e9] at hP
      refine W.eq (g2 := F0 m 10 ls [.int (nI cps.length), .int (nI i)]) rfl ?_
      refine lv_icmp_ge (tgt := 49) hx hb d_CS_copyOf_10 (by decide) (fun c_2 => ?_) (fun c_2 => ?_)
      · exact absurd ((nI_leI (by omega) (by omega)).mp c_2) (by omega)
      · obtain ⟨c0, hc0⟩ := mp_get (xs := cps) (i := i) (by omega)
        have kc := hP1 c0 (List.mem_of_getElem? hc0)
        refine lv_aload_n hx hb d_CS_copyOf_13 rfl (lv_at hl 1 rfl) ?_
        refine fh_get hx hb hG C_CS iG_CS hown hK hP hc 0 (by decide) gm63 rfl d_CS_copyOf_14 ?_
        refine lv_iload_n hx hb d_CS_copyOf_17 rfl (lv_at hl 0 rfl) ?_
        refine fh_callV (C := R_AL) (y := y_AL_get) (bytes := b_AL_get) (maxL := 2) (ret := (some (.object "java/lang/Object"))) (index := 20) (As := [.int (nI i)]) (rest := []) ⟨hx, hb, hml, hown, hG⟩ (c_AL_get l E h al arr (cps.map (·.1)) i c0.1 hL (mp_at hc0)) (cwV 1 hG (gV gm264 gm185 gm186 gm5 gm187) rfl rfl rfl ⟨rfl, hdy_AL_get⟩ ⟨Nat.le_of_ble_eq_true rfl, Nat.le_of_ble_eq_true rfl⟩) C_AL.1 ha hK hZ hP hS hA rfl hl.1 rfl (Nat.le_of_ble_eq_true rfl) d_CS_copyOf_18 ⟨Nat.le_of_ble_eq_true rfl, Nat.le_of_ble_eq_true rfl⟩ (fun r h1 H locs hq9 hP hS => ?_)
        obtain ⟨rfl, e9⟩ := hq9
        rw [e9] at hP
        refine W.eq (g2 := F0 m 21 ls [.ref c0.1]) rfl ?_
        refine va_castY (C := R_CP) hx hb hown (hG _ gm265) (fhK hZ _ (by simp [fhCast])) (fh_recv hK hP C_CP.1 kc) d_CS_copyOf_21 ?_
        refine fh_get hx hb hG C_CP iG_CP hown hK hP kc 0 (by decide) gm273 rfl d_CS_copyOf_24 ?_
        refine lv_iload_n hx hb d_CS_copyOf_27 rfl (lv_at hl 2 rfl) ?_
        refine lv_icmp_ne (tgt := 43) hx hb d_CS_copyOf_28 (by decide) (fun c_3 => ?_) (fun c_3 => ?_)
        · skip
          refine lv_iinc (v := ((nI i)) + 1) (lv' := [(2, .int (((nI i)) + 1)), (0, .ref cs), (1, .int b)]) hx hb d_CS_copyOf_43 hl (k := 0) rfl rfl (by decide) rfl (fun ls hl => ?_)
          refine lv_goto (tgt := 2) hx hb d_CS_copyOf_46 (by decide) ?_
          exact ih (i + 1) _ _ _ (by omega) (fd_neg hinv hc0 (by simpa using c_3)) (by rw [← nI_1]; exact lv_sub hl [0, 1, 2] rfl) hP hS
        · skip
          refine lv_aload_n hx hb d_CS_copyOf_31 rfl (lv_at hl 1 rfl) ?_
          refine fh_get hx hb hG C_CS iG_CS hown hK hP hc 0 (by decide) gm63 rfl d_CS_copyOf_32 ?_
          refine lv_iload_n hx hb d_CS_copyOf_35 rfl (lv_at hl 0 rfl) ?_
          refine fh_callV (C := R_AL) (y := y_AL_get) (bytes := b_AL_get) (maxL := 2) (ret := (some (.object "java/lang/Object"))) (index := 20) (As := [.int (nI i)]) (rest := []) ⟨hx, hb, hml, hown, hG⟩ (c_AL_get l E h al arr (cps.map (·.1)) i c0.1 hL (mp_at hc0)) (cwV 1 hG (gV gm264 gm185 gm186 gm5 gm187) rfl rfl rfl ⟨rfl, hdy_AL_get⟩ ⟨Nat.le_of_ble_eq_true rfl, Nat.le_of_ble_eq_true rfl⟩) C_AL.1 ha hK hZ hP hS hA rfl hl.1 rfl (Nat.le_of_ble_eq_true rfl) d_CS_copyOf_36 ⟨Nat.le_of_ble_eq_true rfl, Nat.le_of_ble_eq_true rfl⟩ (fun r h1 H locs hq9 hP hS => ?_)
          obtain ⟨rfl, e9⟩ := hq9
          rw [e9] at hP
          refine W.eq (g2 := F0 m 39 ls [.ref c0.1]) rfl ?_
          refine va_castY (C := R_CP) hx hb hown (hG _ gm265) (fhK hZ _ (by simp [fhCast])) (fh_recv hK hP C_CP.1 kc) d_CS_copyOf_39 ?_
          exact fh_aret hx hb hr (Or.inl ⟨_, rfl⟩) (Or.inr ⟨_, rfl⟩) hlocks (Nat.le_of_ble_eq_true rfl) (Nat.le_of_ble_eq_true rfl) hP hS ⟨by rw [rf_some (fd_pos hinv hc0 (by simpa using c_3))], rfl⟩ d_CS_copyOf_42
  exact loop cps.length 0 _ _ _ (by omega) rfl (by rw [nI_0]; exact hl) hP hS
