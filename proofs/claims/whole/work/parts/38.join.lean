/-! REQUESTS THAT JOIN, BUFFERS THAT LEAVE, in the model. -/
def addM (S : mS) (k b v : Int32) : mS := (mkS (S.q ++ [(S.nn, k, b, S.tm, v)]) S.mf S.ca S.sv S.ul S.tm S.hd S.up S.wy S.sd S.il S.bs (S.nn + 1) S.hi S.mi S.ev S.ab)
def wbL (b v : Int32) : List mQ → Option (List mQ)
  | [] => none
  | r :: t => if r.2.1 = 2 then none else if r.2.2.1 = b then (if r.2.1 = 1 then some ((r.1, r.2.1, r.2.2.1, r.2.2.2.1, v) :: t) else none) else (wbL b v t).map (r :: ·)
def wbM (S : mS) (c : mC) : mS := match wbL c.1 c.2.1 S.q.reverse with
  | some l => (mkS l.reverse S.mf S.ca S.sv S.ul S.tm S.hd S.up S.wy S.sd S.il S.bs S.nn S.hi S.mi S.ev (S.ab + 1))
  | none => addM S 1 c.1 c.2.1
def evM (S : mS) (t : List mC) : mS := (mkS S.q S.mf S.ca S.sv S.ul S.tm S.hd S.up S.wy S.sd S.il t S.nn S.hi S.mi (S.ev + 1) S.ab)
def roomM (S : mS) : mS := if S.bs.length < 10 then S else match S.bs with
  | [] => S
  | c :: t => if c.2.2 = 0 then evM S t else wbM (evM S t) c
theorem setV_id {xs : List tQ} {a : Nat} {v : Int32} (h : a ∉ xs.map (·.1)) : setV xs a v = xs := by
  unfold setV
  refine (List.map_congr_left (g := id) (fun r hr => ?_)).trans (List.map_id _)
  exact if_neg (fun z => h (List.mem_map.mpr ⟨r, hr, z⟩))
theorem setV_cons (c : tQ) (t : List tQ) (a : Nat) (v : Int32) : setV (c :: t) a v = (if c.1 = a then (c.1, c.2.1, c.2.2.1, c.2.2.2.1, c.2.2.2.2.1, v) else c) :: setV t a v := rfl
theorem wb_none {b v : Int32} : ∀ {xs : List tQ}, absR b xs = none → wbL b v (xs.map (·.2)) = none := by
  intro xs
  induction xs with
  | nil => intro _; rfl
  | cons c t ih =>
    intro h
    unfold absR at h
    show (if c.2.2.1 = 2 then none else if c.2.2.2.1 = b then (if c.2.2.1 = 1 then _ else none) else _) = none
    by_cases z : c.2.2.1 = 2
    · rw [if_pos z]
    · rw [if_neg z] at h ⊢
      by_cases w : c.2.2.2.1 = b
      · rw [if_pos w] at h ⊢
        by_cases y : c.2.2.1 = 1
        · rw [if_pos y] at h; cases h
        · rw [if_neg y]
      · rw [if_neg w] at h ⊢
        rw [ih h]; rfl
theorem wb_some {b v : Int32} {r0 : tQ} : ∀ {xs : List tQ}, absR b xs = some r0 → (xs.map (·.1)).Nodup → wbL b v (xs.map (·.2)) = some ((setV xs r0.1 v).map (·.2)) := by
  intro xs
  induction xs with
  | nil => intro h; cases h
  | cons c t ih =>
    intro h hn
    rw [List.map_cons, List.nodup_cons] at hn
    unfold absR at h
    show (if c.2.2.1 = 2 then none else if c.2.2.2.1 = b then (if c.2.2.1 = 1 then some ((c.2.1, c.2.2.1, c.2.2.2.1, c.2.2.2.2.1, v) :: t.map (·.2)) else none) else (wbL b v (t.map (·.2))).map (c.2 :: ·)) = _
    by_cases z : c.2.2.1 = 2
    · rw [if_pos z] at h; cases h
    · rw [if_neg z] at h ⊢
      by_cases w : c.2.2.2.1 = b
      · rw [if_pos w] at h ⊢
        by_cases y : c.2.2.1 = 1
        · rw [if_pos y] at h ⊢
          have hc : c = r0 := Option.some.inj h
          rw [← hc, setV_cons, if_pos rfl, setV_id hn.1]; rfl
        · rw [if_neg y] at h; cases h
      · rw [if_neg w] at h ⊢
        have hne : ¬ c.1 = r0.1 := fun y => hn.1 (List.mem_map.mpr ⟨r0, absR_mem h, y.symm⟩)
        rw [ih h hn.2, setV_cons, if_neg hne]; rfl
theorem setV_rev (xs : List tQ) (a : Nat) (v : Int32) : setV xs.reverse a v = (setV xs a v).reverse := List.map_reverse ..
theorem WB.er {rqs rqs2 : List tQ} {S : mS} {c0 : tC} {nn2 ab2 : Int32} (h : WB rqs S.tm S.nn S.ab c0 rqs2 nn2 ab2) (eq : rqs.map (·.2) = S.q) (hn : (rqs.map (·.1)).Nodup) : wbM S c0.2 = (mkS (rqs2.map (·.2)) S.mf S.ca S.sv S.ul S.tm S.hd S.up S.wy S.sd S.il S.bs nn2 S.hi S.mi S.ev ab2) := by
  have hr : (rqs.reverse.map (·.1)).Nodup := by rw [List.map_reverse]; exact List.pairwise_reverse.mpr (List.Pairwise.imp (fun z => Ne.symm z) hn)
  have e1 : S.q.reverse = rqs.reverse.map (·.2) := by rw [← eq, List.map_reverse]
  rcases h with ⟨h1, ⟨q, rfl⟩, rfl, rfl⟩ | ⟨r0, h1, rfl, rfl, rfl⟩
  · unfold wbM
    rw [e1, wb_none h1]
    simp only []
    unfold addM
    rw [List.map_append, eq]; rfl
  · unfold wbM
    rw [e1, wb_some h1 hr, setV_rev]
    simp only []
    rw [List.map_reverse, List.reverse_reverse]
set_option maxHeartbeats 1000000 in
theorem c_mk (l : Launch) (E : fh_E) (h : fh_H) (bl dk med : Nat) (rqs : List tQ) (sv : Option tQ) (S : mS) (t : Nat) (hS : BLr E h bl dk med rqs sv S) (hI : Inv S t) (k b v : Int32) : fh_Met l y_BL_makeRequest w_BL_makeRequest ({ frames := 8, cells := 2, slots := 79, locals := 212 }) E [.ref bl, .int k, .int b, .int v] h (fun r h1 => ∃ q, r = some (.ref q) ∧ BLr E h1 bl dk med (rqs ++ [(q, S.nn, k, b, S.tm, v)]) sv (addM S k b v) ∧ KB h h1 med) 2 79 := by
  obtain ⟨bcs, bal, barr, qu, qal, qarr, cs, cal, carr, bps, cps, hS, eb, eq, ec, es⟩ := hS
  have hI0 := hI
  obtain ⟨i1, i2, i3, i4, i5, i6, i7, i8, i9, i10, i11, i12, n0, hn0, i13⟩ := hI
  have hD := hS.2.2.1
  have hq41 : rqs.length ≤ 41 := by have : (rqs.map (·.2)).length ≤ 40 := by rw [eq]; exact i2
                                    rw [List.length_map] at this; omega
  have hc6 : cps.length ≤ 6 := by have : (cps.map (·.2)).length ≤ 6 := by rw [ec]; exact i3
                                  rw [List.length_map] at this; exact this
  have hB : ∀ c ∈ cps, bOK c.2.1 := fun c hc => i6 c.2 (by rw [← ec]; exact List.mem_map.mpr ⟨c, hc, rfl⟩)
  have lc : cps.length = S.ca.length := by rw [← ec, List.length_map]
  have hb10 : bps.length ≤ 10 := by
    have h9 : (bps.map (·.2)).length ≤ 10 := by rw [eb]; exact i1
    rw [List.length_map] at h9
    exact h9
  refine (c_BL_makeRequest l E h bl bcs bal barr dk qu qal qarr med cs cal carr bps rqs S.mf cps sv S.ul S.tm S.hd S.up S.wy S.sd S.il S.nn S.hi S.mi S.ev S.ab hS hb10 hq41 hc6 k b v).mono2 ?_
  rintro r h1 e0 e1 ⟨q, qarr2, rfl, g1, g2, g3, g4, g5⟩
  refine ⟨q, rfl, ⟨bcs, bal, barr, qu, qal, qarr2, cs, cal, carr, bps, cps, g1, eb, ?_, ec, es⟩, KB.of g3 ?_⟩
  · rw [List.map_append, eq]; rfl
  ·
    intro b e hb z
    obtain ⟨m1, kq⟩ := hD.2.1.2.1.al
    obtain ⟨m3, kb⟩ := hS.2.1.2.1.al
    rcases z with z | z | z
    · rw [z, hS.1] at hb; cases hb; exact Or.inr (by show ¬ (6 = 7); decide)
    · rw [z, kq] at hb; cases hb; exact Or.inr (by show ¬ (0 = 7); decide)
    · rw [z] at hb; exact Or.inr (hD.2.1.2.1.noth e0 hb)
set_option maxHeartbeats 1000000 in
theorem c_room (l : Launch) (E : fh_E) (h : fh_H) (bl dk med : Nat) (rqs : List tQ) (sv : Option tQ) (S : mS) (t : Nat) (hS : BLr E h bl dk med rqs sv S) (hI : Inv S t) : fh_Met l y_BL_makeBufferRoom w_BL_makeBufferRoom ({ frames := 10, cells := 2, slots := 79, locals := 258 }) E [.ref bl] h (fun r h1 => r = none ∧ ∃ rqs2, BLr E h1 bl dk med rqs2 sv (roomM S) ∧ KB h h1 med) 2 79 := by
  have hS0 := hS
  obtain ⟨bcs, bal, barr, qu, qal, qarr, cs, cal, carr, bps, cps, hS, eb, eq, ec, es⟩ := hS
  have hI0 := hI
  obtain ⟨i1, i2, i3, i4, i5, i6, i7, i8, i9, i10, i11, i12, n0, hn0, i13⟩ := hI
  have hD := hS.2.2.1
  have hq41 : rqs.length ≤ 41 := by have : (rqs.map (·.2)).length ≤ 40 := by rw [eq]; exact i2
                                    rw [List.length_map] at this; omega
  have hc6 : cps.length ≤ 6 := by have : (cps.map (·.2)).length ≤ 6 := by rw [ec]; exact i3
                                  rw [List.length_map] at this; exact this
  have hB : ∀ c ∈ cps, bOK c.2.1 := fun c hc => i6 c.2 (by rw [← ec]; exact List.mem_map.mpr ⟨c, hc, rfl⟩)
  have lc : cps.length = S.ca.length := by rw [← ec, List.length_map]
  have hb10 : bps.length ≤ 10 := by
    have h9 : (bps.map (·.2)).length ≤ 10 := by rw [eb]; exact i1
    rw [List.length_map] at h9
    exact h9
  have lb : bps.length = S.bs.length := by rw [← eb, List.length_map]
  by_cases c : S.bs.length < 10
  · refine (c_BL_makeBufferRoom_no l E h bl bcs bal barr dk qu qal qarr med cs cal carr bps rqs S.mf cps sv S.ul S.tm S.hd S.up S.wy S.sd S.il S.nn S.hi S.mi S.ev S.ab hS (by omega)).mono2 ?_
    rintro r h1 e0 e1 ⟨rfl, rfl⟩
    have er : roomM S = S := by unfold roomM; rw [if_pos c]
    rw [er]
    exact ⟨rfl, rqs, hS0, KB.rfl⟩
  · cases bps with
    | nil => simp at lb; omega
    | cons c0 bt =>
      refine (c_BL_makeBufferRoom_ev l E h bl bcs bal barr dk qu qal qarr med cs cal carr c0 bt rqs S.mf cps sv S.ul S.tm S.hd S.up S.wy S.sd S.il S.nn S.hi S.mi S.ev S.ab hS (by omega) hq41 hc6).mono2 ?_
      rintro r h1 e0 e1 ⟨rfl, rqs2, nn2, ab2, qarr2, g0, g1, g3, g4, g5⟩
      refine ⟨rfl, rqs2, ?_, KB.of g3 ?_⟩
      · have hb : S.bs = c0.2 :: bt.map (·.2) := eb.symm
        have er : roomM S = if c0.2.2.2 = 0 then evM S (bt.map (·.2)) else wbM (evM S (bt.map (·.2))) c0.2 := by
          unfold roomM; rw [if_neg c, hb]
        rw [er]
        rcases g0 with ⟨z, rfl, rfl, rfl⟩ | ⟨z, w⟩
        · rw [if_pos z]
          exact ⟨bcs, bal, barr, qu, qal, qarr2, cs, cal, carr, bt, cps, g1, rfl, eq, ec, es⟩
        · rw [if_neg z, WB.er (S := evM S (bt.map (·.2))) w eq hD.2.2.2.2.2.1]
          exact ⟨bcs, bal, barr, qu, qal, qarr2, cs, cal, carr, bt, cps, g1, rfl, rfl, ec, es⟩
      ·
        intro b e hb z
        obtain ⟨m1, kq⟩ := hD.2.1.2.1.al
        obtain ⟨m3, kb⟩ := hS.2.1.2.1.al
        rcases z with z | z | z | z | z | z
        · rw [z, hS.1] at hb; cases hb; exact Or.inr (by show ¬ (6 = 7); decide)
        · rw [z, kq] at hb; cases hb; exact Or.inr (by show ¬ (0 = 7); decide)
        · rw [z] at hb; exact Or.inr (hD.2.1.2.1.noth e0 hb)
        · rw [z, kb] at hb; cases hb; exact Or.inr (by show ¬ (0 = 7); decide)
        · rw [z] at hb; exact Or.inr (hS.2.1.2.1.noth e0 hb)
        · obtain ⟨r, hr, z⟩ := z
          have k9 := hD.2.1.2.2 r hr
          rw [z, k9] at hb; cases hb; exact Or.inr (by show ¬ (3 = 7); decide)
/-- the numbers given are below N -/
def NB (S : mS) (N : Nat) : Prop := S.nn = nI N ∧ (∀ r ∈ S.q, ∃ j, j < N ∧ r.1 = nI j) ∧ ∀ r, S.sv = some r → ∃ j, j < N ∧ r.1 = nI j
/-- as the disk goes on till the wanted one has ended: the state, what it told -/
def ldM : Nat → Int32 → mS → mS × Int32
  | 0, _, S => (S, 0)
  | f + 1, w, S => match (bgM S).sv with
    | none => (S, 0)
    | some r => if r.1 = w then (nextM S, endW S.mf S.ca r) else ldM f w (nextM S)
def putM (S : mS) (b v d : Int32) : mS := (mkS S.q S.mf S.ca S.sv S.ul S.tm S.hd S.up S.wy S.sd S.il (S.bs.eraseP (fun c => c.1 == b) ++ [(b, v, d)]) S.nn S.hi S.mi S.ev S.ab)
def hitM (S : mS) : mS := (mkS S.q S.mf S.ca S.sv S.ul S.tm S.hd S.up S.wy S.sd S.il S.bs S.nn (S.hi + 1) S.mi S.ev S.ab)
def misM (S : mS) : mS := (mkS S.q S.mf S.ca S.sv S.ul S.tm S.hd S.up S.wy S.sd S.il S.bs S.nn S.hi (S.mi + 1) S.ev S.ab)
def bfM (S : mS) (b : Int32) : Option mC := S.bs.find? (fun c => c.1 == b)
def loadM (S : mS) (b : Int32) : mS × Int32 := match bfM S b with
  | some c => (putM (hitM S) b c.2.1 c.2.2, c.2.1)
  | none => (putM (ldM 41 (roomM (misM S)).nn (addM (roomM (misM S)) 0 b 0)).1 b (ldM 41 (roomM (misM S)).nn (addM (roomM (misM S)) 0 b 0)).2 0, (ldM 41 (roomM (misM S)).nn (addM (roomM (misM S)) 0 b 0)).2)
def saveM (S : mS) (b v : Int32) : mS × Int32 := match bfM S b with
  | some c => (putM S b v 1, c.2.1)
  | none => (putM (roomM S) b v 1, 0)
