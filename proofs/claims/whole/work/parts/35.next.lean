/-! THE WORLD AND THE MODEL: the layer's cells hold a state of the model; the next end of a request. -/
theorem fh_Met.mono2 {l : Launch} {y : MethodName} {ws : List Cond} {rm : Room} {E : fh_E} {av : List Value} {h : fh_H} {post post' : Option Value → fh_H → Prop} {mc ms : Nat} (hM : fh_Met l y ws rm E av h post mc ms) (hp : ∀ r h1, h (fh_ed E) = none → h1 (fh_ed E) = none → post r h1 → post' r h1) : fh_Met l y ws rm E av h post' mc ms := by
  intro sz p e ha hc hk s m args below hf happ hP hK
  obtain ⟨n, o, h1, h2, h3, ⟨⟨r, g, q1, q2, q3⟩, h5⟩, h6⟩ := hM sz p e ha hc hk s m args below hf happ hP hK
  have hZ := hP.2.2.2.2
  exact ⟨n, o, h1, h2, h3, ⟨⟨r, g, q1, hp r g (hZ.edn (hP.2.2.1.self _)) (hZ.edn q3) q2, q3⟩, h5⟩, h6⟩
/-- a cell that the layer never has -/
def oth : va_E → Prop
  | .inl (_, _, .inr (.inr (.inr (.inr _)))) => False
  | .inl _ => True
  | .inr (i, _) => i = 7
def KB (h h1 : fh_H) (med : Nat) : Prop := ∀ b e, h b = some e → b ≠ med → oth e → h1 b = some e
theorem KB.rfl {h : fh_H} {med : Nat} : KB h h med := fun _ _ hb _ _ => hb
theorem KB.trans {h h1 h2 : fh_H} {med : Nat} (a : KB h h1 med) (b : KB h1 h2 med) : KB h h2 med := fun x e hx n w => b x e (a x e hx n w) n w
theorem KB.of {h h1 : fh_H} {med : Nat} {X : Nat → Prop} (F : Fr h h1 X) (hX : ∀ b e, h b = some e → X b → b = med ∨ ¬ oth e) : KB h h1 med := fun b e hb n w => F b e hb (fun z => (hX b e hb z).elim n (fun k => k w))
theorem KB.up {h h1 : fh_H} {med a i : Nat} {fs : List Value} {x : va_E} (ha : h a = some (.inr (i, fs))) (hi : i ≠ 7) (hq : h1 = va_up h a (some x)) : KB h h1 med := fun b e hb n w => by
  by_cases z : b = a
  · rw [z, ha] at hb; cases hb; exact absurd w hi
  · rw [hq, va_up_ne _ _ z]; exact hb
theorem KB.fresh {h h1 : fh_H} {med a : Nat} {x : va_E} (ha : h a = none) (hq : h1 = va_up h a (some x)) : KB h h1 med := fun b e hb n w => by
  rw [hq, va_up_ne _ _ (fh_neF hb ha)]; exact hb
theorem LI.noth {E : fh_E} {h : fh_H} {al arr : Nat} {xs : List Nat} {e : va_E} (hL : LI E h al arr xs) (e0 : h (fh_ed E) = none) (ha : h arr = some e) : ¬ oth e := by
  obtain ⟨md, cap, f, j1, j2, j3, j4, j5⟩ := hL
  rcases j5 with ⟨j5, -⟩ | ⟨-, j6⟩
  · rw [j5, e0] at ha; cases ha
  · rw [j6] at ha; cases ha; exact id
theorem KB.lfr {E : fh_E} {h h1 : fh_H} {med al arr arr2 : Nat} {xs : List Nat} (hL : LI E h al arr xs) (e0 : h (fh_ed E) = none) (L : LFr h h1 al arr arr2) : KB h h1 med := fun b e hb n w => by
  obtain ⟨md, ka⟩ := hL.al
  refine (L.1 b (fun z => ?_) (fun z => ?_) (fun z => ?_)).trans hb
  · rw [z, ka] at hb; cases hb; cases w
  · rw [z] at hb; exact hL.noth e0 hb w
  · rcases L.2.1 with v | v
    · rw [z, v] at hb; exact hL.noth e0 hb w
    · rw [z, v] at hb; cases hb
/-- the cells hold the state S; the live requests are told with their addresses -/
def BLr (E : fh_E) (h : fh_H) (bl dk med : Nat) (rqs : List tQ) (sv : Option tQ) (S : mS) : Prop := ∃ (bcs bal barr qu qal qarr cs cal carr : Nat) (bps cps : List tC), BLs E h bl bcs bal barr dk qu qal qarr med cs cal carr bps rqs S.mf cps sv S.ul S.tm S.hd S.up S.wy S.sd S.il S.nn S.hi S.mi S.ev S.ab ∧ bps.map (·.2) = S.bs ∧ rqs.map (·.2) = S.q ∧ cps.map (·.2) = S.ca ∧ sv.map (·.2) = S.sv
theorem ep_map {cps : List tC} {b : Int32} : (cps.eraseP (fun d => d.2.1 == b)).map (·.2) = (cps.map (·.2)).eraseP (fun d => d.1 == b) := by
  rw [List.eraseP_map]; rfl
theorem mv_map (mf : Nat → Int32) (cps : List tC) (k : Nat) : (movT mf cps k).1 = (movM mf (cps.map (·.2)) k).1 ∧ (movT mf cps k).2.map (·.2) = (movM mf (cps.map (·.2)) k).2 := by
  refine ⟨?_, List.map_drop⟩
  show (cps.take k).foldl updC mf = ((cps.map (·.2)).take k).foldl updM mf
  rw [← List.map_take, List.foldl_map]
  rfl
theorem endT_er (mf : Nat → Int32) (cps : List tC) (r : tQ) (q : Nat) : (endT mf cps r q).1 = (endX mf (cps.map (·.2)) r.2).1 ∧ (endT mf cps r q).2.map (·.2) = (endX mf (cps.map (·.2)) r.2).2 := by
  unfold endT endX
  by_cases z : r.2.2.1 = 0
  · rw [if_pos z, if_pos z]; exact ⟨rfl, rfl⟩
  · rw [if_neg z, if_neg z]
    by_cases w : r.2.2.1 = 1
    · rw [if_pos w, if_pos w]
      have e1 : (cps.eraseP (fun d => d.2.1 == r.2.2.2.1) ++ [(q, r.2.2.2.1, r.2.2.2.2.2, (0 : Int32))]).map (·.2) = (cps.map (·.2)).eraseP (fun d => d.1 == r.2.2.2.1) ++ [(r.2.2.2.1, r.2.2.2.2.2, (0 : Int32))] := by
        rw [List.map_append, ep_map]; rfl
      have e2 : (cps.eraseP (fun d => d.2.1 == r.2.2.2.1)).length = ((cps.map (·.2)).eraseP (fun d => d.1 == r.2.2.2.1)).length := by rw [← ep_map, List.length_map]
      have := mv_map mf (cps.eraseP (fun d => d.2.1 == r.2.2.2.1) ++ [(q, r.2.2.2.1, r.2.2.2.2.2, (0 : Int32))]) ((cps.eraseP (fun d => d.2.1 == r.2.2.2.1)).length + 1 - 6)
      rw [e1, e2] at this
      rw [e2]; exact this
    · rw [if_neg w, if_neg w]
      have := mv_map mf cps cps.length
      rw [List.length_map]; exact this
theorem endT_fr {mf : Nat → Int32} {cps : List tC} {r : tQ} {q : Nat} : ∀ c ∈ (endT mf cps r q).2, c.1 = q ∨ c ∈ cps := by
  intro c hc
  unfold endT at hc
  by_cases z : r.2.2.1 = 0
  · rw [if_pos z] at hc; exact Or.inr hc
  · rw [if_neg z] at hc
    by_cases w : r.2.2.1 = 1
    · rw [if_pos w] at hc
      have := List.mem_of_mem_drop hc
      rcases List.mem_append.mp this with v | v
      · exact Or.inr (List.mem_of_mem_eraseP v)
      · exact Or.inl (by rw [List.mem_singleton.mp v])
    · rw [if_neg w] at hc
      exact Or.inr (List.mem_of_mem_drop hc)
theorem vin_er (mf : Nat → Int32) (cps : List tC) (b : Int32) : vin mf cps b = vinM mf (cps.map (·.2)) b := by
  unfold vin vinM
  rw [List.find?_map]
  show (match cps.find? (fun c => c.2.1 == b) with | some c => c.2.2.1 | none => mf b.toNatClampNeg) = match Option.map (·.2) (cps.find? (fun c => c.2.1 == b)) with | some c => c.2.1 | none => mf b.toNatClampNeg
  cases cps.find? (fun c => c.2.1 == b) with
  | none => rfl
  | some c => rfl
theorem endV_er (mf : Nat → Int32) (cps : List tC) (r : tQ) : endV mf cps r = endW mf (cps.map (·.2)) r.2 := by
  unfold endV endW
  rw [vin_er]
theorem nextM_1 {S : mS} {r : mQ} (h : S.sv = some r) : nextM S = (mkS S.q ((endX S.mf S.ca r).1) ((endX S.mf S.ca r).2) none 0 (S.tm + S.ul) S.hd S.up S.wy (S.sd + 1) S.il S.bs S.nn S.hi S.mi S.ev S.ab) := by
  unfold nextM bgM
  rw [h]
  simp only []
  unfold endM
  rw [h]
theorem bgM_2 {S : mS} {r : mQ} {k : Nat} (h0 : S.sv = none) (hc : (chs S.q S.tm S.hd S.up S.wy).1 = some k) (hr : S.q[k]? = some r) : bgM S = (mkS (S.q.eraseIdx k) S.mf S.ca (some r) (begU r S.ca.length S.hd) S.tm (begH r S.hd) ((chs S.q S.tm S.hd S.up S.wy).2) S.wy S.sd S.il S.bs S.nn S.hi S.mi S.ev S.ab) := by
  unfold bgM
  rw [h0]
  simp only []
  unfold begM
  rw [hc]
  simp only []
  rw [hr]
theorem nextM_2 {S : mS} {r : mQ} {k : Nat} (h0 : S.sv = none) (hc : (chs S.q S.tm S.hd S.up S.wy).1 = some k) (hr : S.q[k]? = some r) : nextM S = (mkS (S.q.eraseIdx k) ((endX S.mf S.ca r).1) ((endX S.mf S.ca r).2) none 0 (S.tm + begU r S.ca.length S.hd) (begH r S.hd) ((chs S.q S.tm S.hd S.up S.wy).2) S.wy (S.sd + 1) S.il S.bs S.nn S.hi S.mi S.ev S.ab) := by
  unfold nextM
  rw [bgM_2 h0 hc hr]
  rfl
theorem ep_no {b : Int32} : ∀ {xs : List mC}, (xs.map (·.1)).Nodup → ∀ c ∈ xs.eraseP (fun d => d.1 == b), c.1 ≠ b := by
  intro xs
  induction xs with
  | nil => intro _ c hc; cases hc
  | cons x t ih =>
    intro hn c hc
    rw [List.map_cons, List.nodup_cons] at hn
    by_cases z : (x.1 == b) = true
    · rw [List.eraseP_cons_of_pos (by exact z)] at hc
      intro w
      exact hn.1 (List.mem_map.mpr ⟨c, hc, w.trans (beq_iff_eq.mp z).symm⟩)
    · rw [List.eraseP_cons_of_neg (by exact z)] at hc
      rcases List.mem_cons.mp hc with rfl | hc
      · exact fun w => z (beq_iff_eq.mpr w)
      · exact ih hn.2 c hc
theorem ap_nd {b v d : Int32} {xs : List mC} (hn : (xs.map (·.1)).Nodup) : ((xs.eraseP (fun c => c.1 == b) ++ [(b, v, d)]).map (·.1)).Nodup := by
  rw [List.map_append, List.nodup_append]
  refine ⟨hn.sublist (List.eraseP_sublist.map _), by simp, fun a ha c hc => ?_⟩
  obtain ⟨x, hx, rfl⟩ := List.mem_map.mp ha
  rw [List.map_singleton, List.mem_singleton] at hc
  rw [hc]; exact ep_no hn x hx
theorem endX_ok {mf : Nat → Int32} {ca : List mC} {r : mQ} (h6 : ca.length ≤ 6) (hb : ∀ c ∈ ca, bOK c.1) (hn : (ca.map (·.1)).Nodup) (hr : qOK r) : (endX mf ca r).2.length ≤ 6 ∧ (∀ c ∈ (endX mf ca r).2, bOK c.1) ∧ ((endX mf ca r).2.map (·.1)).Nodup := by
  unfold endX
  by_cases z : r.2.1 = 0
  · rw [if_pos z]; exact ⟨h6, hb, hn⟩
  · rw [if_neg z]
    by_cases w : r.2.1 = 1
    · rw [if_pos w]
      have hbk : bOK r.2.2.1 := hr.2 (by rw [w]; decide)
      refine ⟨?_, fun c hc => ?_, ?_⟩
      · show (List.drop _ _).length ≤ 6
        rw [List.length_drop, List.length_append, List.length_singleton]; omega
      · rcases List.mem_append.mp (List.mem_of_mem_drop hc) with v | v
        · exact hb c (List.mem_of_mem_eraseP v)
        · rw [List.mem_singleton.mp v]; exact hbk
      · exact (ap_nd hn).sublist ((List.drop_sublist _ _).map _)
    · rw [if_neg w]
      refine ⟨?_, fun c hc => hb c (List.mem_of_mem_drop hc), hn.sublist ((List.drop_sublist _ _).map _)⟩
      show (List.drop _ _).length ≤ 6
      rw [List.length_drop]; omega
/-- how many live -/
def cnt (S : mS) : Nat := S.q.length + (match S.sv with | some _ => 1 | none => 0)
theorem Inv.next {S : mS} {t : Nat} (hI : Inv S t) (hw : S.sv ≠ none ∨ S.q ≠ []) : Inv (nextM S) (t + 40) ∧ (nextM S).sv = none ∧ cnt (nextM S) + 1 = cnt S := by
  have hI0 := hI
  obtain ⟨i1, i2, i3, i4, i5, i6, i7, i8, i9, i10, i11, i12, n, hn, i13⟩ := hI
  cases hs : S.sv with
  | some r =>
    obtain ⟨hq, u, hu, hu1, hu2⟩ := i5 r hs
    rw [nextM_1 hs]
    have := endX_ok (mf := S.mf) i3 i6 i9 hq
    refine ⟨⟨i1, i2, this.1, i4, fun r z => (by cases z), this.2.1, i7, i8, this.2.2, i10, i11, i12, n + u, by omega, ?_⟩, rfl, ?_⟩
    · show S.tm + S.ul = _
      rw [i13, hu, nI_add]
    · show S.q.length + 0 + 1 = cnt S
      unfold cnt; rw [hs]; rfl
  | none =>
    have hq : S.q ≠ [] := hw.resolve_left (fun z => z hs)
    obtain ⟨k, r, hk, hr⟩ := chs_ok (tm := S.tm) (wy := S.wy) hq i4 i10 i11
    have hrq := i4 r (List.mem_of_getElem? hr)
    obtain ⟨u, hu, hu1, hu2⟩ := begU_ok hrq i3 i10
    rw [nextM_2 hs hk hr]
    have := endX_ok (mf := S.mf) i3 i6 i9 hrq
    have hlt := (List.getElem?_eq_some_iff.mp hr).1
    refine ⟨⟨i1, Nat.le_trans (List.length_eraseIdx_le ..) i2, this.1, fun x hx => i4 x (List.mem_of_mem_eraseIdx hx), fun r z => (by cases z), this.2.1, i7, i8, this.2.2, begH_ok hrq i10, chs_up i11, i12, n + u, by omega, ?_⟩, rfl, ?_⟩
    · show S.tm + begU r S.ca.length S.hd = _
      rw [i13, hu, nI_add]
    · show (S.q.eraseIdx k).length + 0 + 1 = cnt S
      unfold cnt; rw [hs, List.length_eraseIdx, if_pos hlt]
      simp only []
      omega
/-- what is served: what was being served, or a waiting one -/
def Sv (rqs : List tQ) (sv : Option tQ) (rqs2 : List tQ) (r9 : tQ) : Prop := (sv = some r9 ∧ rqs2 = rqs) ∨ (sv = none ∧ ∃ k, rqs[k]? = some r9 ∧ rqs2 = rqs.eraseIdx k)
theorem map_at {α β : Type} {f : α → β} {xs : List α} {k : Nat} {y : β} (h : (xs.map f)[k]? = some y) : ∃ x, xs[k]? = some x ∧ f x = y := by
  rw [List.getElem?_map] at h
  cases hx : xs[k]? with
  | none => rw [hx] at h; cases h
  | some x => rw [hx] at h; cases h; exact ⟨x, rfl, rfl⟩
theorem er_map2 {α β : Type} (f : α → β) (xs : List α) (i : Nat) : (xs.map f).eraseIdx i = (xs.eraseIdx i).map f := by
  induction xs generalizing i with
  | nil => rfl
  | cons x t ih =>
    cases i with
    | zero => rfl
    | succ i => simp only [List.map_cons, List.eraseIdx_cons_succ, ih]
set_option maxHeartbeats 1000000 in
theorem c_next (l : Launch) (E : fh_E) (h : fh_H) (bl dk med : Nat) (rqs : List tQ) (sv : Option tQ) (S : mS) (t : Nat) (hS : BLr E h bl dk med rqs sv S) (hI : Inv S t) (hw : S.sv ≠ none ∨ S.q ≠ []) : fh_Met l y_DK_passToNextEnd w_DK_passToNextEnd ({ frames := 10, cells := 2, slots := 76, locals := 256 }) E [.ref dk] h
    (fun r h1 => r = none ∧ ∃ rqs2 r9, BLr E h1 bl dk med rqs2 none (nextM S) ∧ Sv rqs sv rqs2 r9 ∧ h1 r9.1 = some (.inr (3, [.int r9.2.1, .int r9.2.2.1, .int r9.2.2.2.1, .int r9.2.2.2.2.1, .int (endW S.mf S.ca r9.2), .int 1])) ∧ r9.1 ∉ rqs2.map (·.1) ∧ KB h h1 med ∧ (bgM S).sv = some r9.2) 2 76 := by
  obtain ⟨bcs, bal, barr, qu, qal, qarr, cs, cal, carr, bps, cps, hS, eb, eq, ec, es⟩ := hS
  have hI0 := hI
  obtain ⟨i1, i2, i3, i4, i5, i6, i7, i8, i9, i10, i11, i12, n, hn, i13⟩ := hI
  have hD := hS.2.2.1
  have hq41 : rqs.length ≤ 41 := by have : (rqs.map (·.2)).length ≤ 40 := by rw [eq]; exact i2
                                    rw [List.length_map] at this; omega
  have hc6 : cps.length ≤ 6 := by have : (cps.map (·.2)).length ≤ 6 := by rw [ec]; exact i3
                                  rw [List.length_map] at this; exact this
  have hB : ∀ c ∈ cps, bOK c.2.1 := fun c hc => i6 c.2 (by rw [← ec]; exact List.mem_map.mpr ⟨c, hc, rfl⟩)
  have lc : cps.length = S.ca.length := by rw [← ec, List.length_map]
  have key : ∃ rqs2 r9 u hd2 up2, u < 100000 ∧ Nx rqs cps sv S.ul S.tm S.hd S.up S.wy rqs2 r9 u hd2 up2 ∧ qOK r9.2 ∧ Sv rqs sv rqs2 r9 ∧ (bgM S).sv = some r9.2 ∧ nextM S = (mkS (rqs2.map (·.2)) ((endX S.mf S.ca r9.2).1) ((endX S.mf S.ca r9.2).2) none 0 (S.tm + nI u) hd2 up2 S.wy (S.sd + 1) S.il S.bs S.nn S.hi S.mi S.ev S.ab) := by
    cases hs : sv with
    | some r9 =>
      have hs2 : S.sv = some r9.2 := by rw [← es, hs]; rfl
      obtain ⟨hq, u, hu, hu1, hu2⟩ := i5 r9.2 hs2
      exact ⟨rqs, r9, u, S.hd, S.up, by omega, Or.inl ⟨rfl, rfl, hu, rfl, rfl⟩, hq, Or.inl ⟨rfl, rfl⟩, by unfold bgM; rw [hs2]; simp only []; exact hs2, by rw [nextM_1 hs2, hu, eq]⟩
    | none =>
      have hs2 : S.sv = none := by rw [← es, hs]; rfl
      have hq : S.q ≠ [] := hw.resolve_left (fun z => z hs2)
      obtain ⟨k, r, hk, hr⟩ := chs_ok (tm := S.tm) (wy := S.wy) hq i4 i10 i11
      have hrq := i4 r (List.mem_of_getElem? hr)
      obtain ⟨u, hu, hu1, hu2⟩ := begU_ok hrq i3 i10
      rw [← eq] at hr
      obtain ⟨r9, hr9, rfl⟩ := map_at hr
      rw [eq] at hr
      refine ⟨rqs.eraseIdx k, r9, u, _, _, by omega, Or.inr ⟨rfl, k, by rw [eq]; exact hk, hr9, rfl, by rw [lc]; exact hu, rfl, rfl⟩, hrq, Or.inr ⟨rfl, k, hr9, rfl⟩, by rw [bgM_2 hs2 hk hr]; rfl, ?_⟩
      rw [nextM_2 hs2 hk hr, hu, ← er_map2, eq]
  obtain ⟨rqs2, r9, u, hd2, up2, k1, k2, k3, k4, k6, k5⟩ := key
  refine (c_DK_passToNextEnd l E h dk qu qal qarr med cs cal carr rqs S.mf cps sv rqs2 r9 u hd2 up2 S.ul S.tm S.hd S.up S.wy S.sd S.il k1 k2 hD hq41 hc6 hB k3.2 k3.1).mono2 ?_
  rintro r h1 e0 e1 ⟨rfl, q, carr2, g1, g2, g3, g4, g5, g6⟩
  have er := endT_er S.mf cps r9 q
  rw [ec] at er
  have kr : ∃ fs, h r9.1 = some (.inr (3, fs)) := by
    rcases k4 with ⟨z, -⟩ | ⟨-, k, z, -⟩
    · exact ⟨_, (hD.2.2.2.2.1 r9 z).1⟩
    · exact ⟨_, hD.2.1.2.2 r9 (List.mem_of_getElem? z)⟩
  have hn9 : r9.1 ∉ rqs2.map (·.1) := by
    rcases k4 with ⟨z, rfl⟩ | ⟨-, k, z, rfl⟩
    · exact (hD.2.2.2.2.1 r9 z).2
    · exact (nd_erase hD.2.2.2.2.2.1 z).1
  have cz : ∀ b ∈ bps, ∀ c ∈ (endT S.mf cps r9 q).2, b.1 ≠ c.1 := by
    intro b hb c hc
    rcases endT_fr c hc with z | z
    · rw [z]; exact fh_neF (hS.2.1.2.2 b hb) g6
    · exact hS.2.2.2.2.2.2.2.2 b hb c z
  have S2 := hS.disk e0 e1 (Or.inr kr) g1 g4 g2 (Or.inl rfl) cz
  refine ⟨rfl, rqs2, r9, ?_, k4, ?_, hn9, KB.of g4 ?_, k6⟩
  · rw [k5]
    exact ⟨bcs, bal, barr, qu, qal, qarr, cs, cal, carr2, bps, _, er.1 ▸ S2, eb, rfl, er.2, rfl⟩
  · rw [g3, endV_er, ec]
  · intro b e hb z
    obtain ⟨fs, kr⟩ := kr
    obtain ⟨m1, kq⟩ := hD.2.1.2.1.al
    obtain ⟨m2, kc⟩ := hD.2.2.2.1.2.1.al
    rcases z with z | z | z | z | z | z | z
    · rw [z, hD.1] at hb; cases hb; exact Or.inr (by show ¬ (5 = 7); decide)
    · rw [z, kc] at hb; cases hb; exact Or.inr (by show ¬ (0 = 7); decide)
    · rw [z] at hb; exact Or.inr (hD.2.2.2.1.2.1.noth e0 hb)
    · exact Or.inl z
    · rw [z, kr] at hb; cases hb; exact Or.inr (by show ¬ (3 = 7); decide)
    · rw [z, kq] at hb; cases hb; exact Or.inr (by show ¬ (0 = 7); decide)
    · rw [z] at hb; exact Or.inr (hD.2.1.2.1.noth e0 hb)
