/-! TIME PASSES, in the model. -/
def idM (S : mS) (v : Int32) : mS := (mkS S.q S.mf S.ca S.sv S.ul (S.tm + v) S.hd S.up S.wy S.sd (S.il + v) S.bs S.nn S.hi S.mi S.ev S.ab)
def ptM (S : mS) (v : Int32) : mS := (mkS S.q S.mf S.ca S.sv (S.ul - v) (S.tm + v) S.hd S.up S.wy S.sd S.il S.bs S.nn S.hi S.mi S.ev S.ab)
def paM : Nat → Nat → mS → mS
  | 0, _, S => S
  | f + 1, left, S => if left = 0 then S else match (bgM S).sv with
    | none => idM (bgM S) (nI left)
    | some _ => if left < (bgM S).ul.toNatClampNeg then ptM (bgM S) (nI left) else paM f (left - (bgM S).ul.toNatClampNeg) (endM (bgM S))
theorem bgM_s {S : mS} {r : mQ} (h : S.sv = some r) : bgM S = S := by
  unfold bgM; rw [h]
theorem bgM_n {S : mS} (h : S.sv = none) (hq : S.q = []) : bgM S = S := by
  unfold bgM; rw [h]
  simp only []
  unfold begM; rw [hq]; rfl
theorem Inv.bg {S : mS} {t : Nat} (hI : Inv S t) : Inv (bgM S) t ∧ cnt (bgM S) = cnt S ∧ ((bgM S).sv = none → S.q = [] ∧ S.sv = none) := by
  have hI0 := hI
  obtain ⟨i1, i2, i3, i4, i5, i6, i7, i8, i9, i10, i11, i12, n, hn, i13⟩ := hI
  cases hs : S.sv with
  | some r =>
    rw [bgM_s hs]
    exact ⟨hI0, rfl, fun z => by rw [hs] at z; cases z⟩
  | none =>
    by_cases hq : S.q = []
    · rw [bgM_n hs hq]; exact ⟨hI0, rfl, fun _ => ⟨hq, rfl⟩⟩
    · obtain ⟨k, r, hk, hr⟩ := chs_ok (tm := S.tm) (wy := S.wy) hq i4 i10 i11
      have hrq := i4 r (List.mem_of_getElem? hr)
      rw [bgM_2 hs hk hr]
      have hlt := (List.getElem?_eq_some_iff.mp hr).1
      refine ⟨⟨i1, Nat.le_trans (List.length_eraseIdx_le ..) i2, i3, fun x hx => i4 x (List.mem_of_mem_eraseIdx hx), fun r' z => ?_, i6, i7, i8, i9, begH_ok hrq i10, chs_up i11, i12, n, hn, i13⟩, ?_, fun z => by cases z⟩
      · cases z; exact ⟨hrq, begU_ok hrq i3 i10⟩
      · show (S.q.eraseIdx k).length + 1 = cnt S
        unfold cnt; rw [hs, List.length_eraseIdx, if_pos hlt]
        simp only []
        omega
theorem Inv.end {S : mS} {t u : Nat} {r : mQ} (hI : Inv S t) (hs : S.sv = some r) (hu : S.ul = nI u) : Inv (endM S) (t + u) ∧ (endM S).sv = none ∧ cnt (endM S) + 1 = cnt S := by
  obtain ⟨i1, i2, i3, i4, i5, i6, i7, i8, i9, i10, i11, i12, n, hn, i13⟩ := hI
  have he : endM S = (mkS S.q ((endX S.mf S.ca r).1) ((endX S.mf S.ca r).2) none 0 (S.tm + S.ul) S.hd S.up S.wy (S.sd + 1) S.il S.bs S.nn S.hi S.mi S.ev S.ab) := by unfold endM; rw [hs]
  rw [he]
  have := endX_ok (mf := S.mf) i3 i6 i9 (i5 r hs).1
  refine ⟨⟨i1, i2, this.1, i4, fun r z => (by cases z), this.2.1, i7, i8, this.2.2, i10, i11, i12, n + u, by omega, ?_⟩, rfl, ?_⟩
  · show S.tm + S.ul = _
    rw [i13, hu, nI_add]
  · show S.q.length + 0 + 1 = cnt S
    unfold cnt; rw [hs]; rfl
theorem Inv.id {S : mS} {t n : Nat} (hI : Inv S t) (hs : S.sv = none) : Inv (idM S (nI n)) (t + n) := by
  obtain ⟨i1, i2, i3, i4, i5, i6, i7, i8, i9, i10, i11, i12, m, hm, i13⟩ := hI
  exact ⟨i1, i2, i3, i4, fun r z => i5 r z, i6, i7, i8, i9, i10, i11, i12, m + n, by omega, by show S.tm + nI n = _; rw [i13, nI_add]⟩
theorem Inv.pt {S : mS} {t n u : Nat} (hI : Inv S t) (hu : S.ul = nI u) (hn : n < u) (hu2 : u ≤ 40) : Inv (ptM S (nI n)) (t + n) := by
  obtain ⟨i1, i2, i3, i4, i5, i6, i7, i8, i9, i10, i11, i12, m, hm, i13⟩ := hI
  exact ⟨i1, i2, i3, i4, fun r z => ⟨(i5 r z).1, u - n, by show S.ul - nI n = _; rw [hu, pk_sub (by omega)], by omega, by omega⟩, i6, i7, i8, i9, i10, i11, i12, m + n, by omega, by show S.tm + nI n = _; rw [i13, nI_add]⟩
theorem Inv.ulu {S : mS} {t : Nat} {r : mQ} (hI : Inv S t) (hs : S.sv = some r) : ∃ u, S.ul = nI u ∧ S.ul.toNatClampNeg = u ∧ 1 ≤ u ∧ u ≤ 40 := by
  obtain ⟨-, u, h1, h2, h3⟩ := hI.svok r hs
  exact ⟨u, h1, by rw [h1, nI_clamp (by omega)], h2, h3⟩
theorem Inv.pa : ∀ (f left : Nat) {S : mS} {t : Nat}, Inv S t → cnt S < f → Inv (paM f left S) (t + left) := by
  intro f
  induction f with
  | zero => intro left S t _ h; omega
  | succ f ih =>
    intro left S t hI hc
    unfold paM
    by_cases z : left = 0
    · rw [if_pos z, z]; exact hI
    · rw [if_neg z]
      obtain ⟨b1, b2, b3⟩ := hI.bg
      cases hs : (bgM S).sv with
      | none => exact b1.id hs
      | some r =>
        simp only []
        obtain ⟨u, u1, u2, u3, u4⟩ := b1.ulu hs
        rw [u2]
        by_cases w : left < u
        · rw [if_pos w]; exact b1.pt u1 w u4
        · rw [if_neg w]
          obtain ⟨e1, e2, e3⟩ := b1.end hs u1
          have := ih (left - u) e1 (by omega)
          rw [show t + left = t + u + (left - u) by omega]; exact this
theorem BLr.dk {E : fh_E} {h : fh_H} {bl dk med : Nat} {rqs : List tQ} {sv : Option tQ} {S : mS} (hS : BLr E h bl dk med rqs sv S) : ∃ fs, h dk = some (.inr (5, fs)) := by
  obtain ⟨bcs, bal, barr, qu, qal, qarr, cs, cal, carr, bps, cps, hS, -⟩ := hS
  exact ⟨_, hS.2.2.1.1⟩
set_option maxHeartbeats 1000000 in
theorem c_bg (l : Launch) (E : fh_E) (h : fh_H) (bl dk med : Nat) (rqs : List tQ) (sv : Option tQ) (S : mS) (t : Nat) (hS : BLr E h bl dk med rqs sv S) (hI : Inv S t) : fh_Met l y_DK_beginIfIdle w_DK_beginIfIdle ({ frames := 6, cells := 0, slots := 0, locals := 136 }) E [.ref dk] h (fun r h1 => r = none ∧ ∃ rqs2 sv2, BLr E h1 bl dk med rqs2 sv2 (bgM S) ∧ KB h h1 med) 0 0 := by
  have hS0 := hS
  obtain ⟨bcs, bal, barr, qu, qal, qarr, cs, cal, carr, bps, cps, hS, eb, eq, ec, es⟩ := hS
  have hI0 := hI
  obtain ⟨i1, i2, i3, i4, i5, i6, i7, i8, i9, i10, i11, i12, n0, hn0, i13⟩ := hI
  have hD := hS.2.2.1
  have hq41 : rqs.length ≤ 41 := by have : (rqs.map (·.2)).length ≤ 40 := by rw [eq]; exact i2
                                    rw [List.length_map] at this; omega
  have hc6 : cps.length ≤ 6 := by have : (cps.map (·.2)).length ≤ 6 := by rw [ec]; exact i3
                                  rw [List.length_map] at this; exact this
  have hB : ∀ c ∈ cps, bOK c.2.1 := fun c hc => i6 c.2 (by rw [← ec]; exact List.mem_map.mpr ⟨c, hc, rfl⟩)
  have lc : cps.length = S.ca.length := by rw [← ec, List.length_map]
  cases hs : sv with
  | some r9 =>
    have hs2 : S.sv = some r9.2 := by rw [← es, hs]; rfl
    have hd0 := hD.1
    rw [hs] at hd0
    refine (c_DK_beginIfIdle_busy l E h dk qu med cs r9.1 _ _ _ _ _ _ _ hd0).mono2 ?_
    rintro r h1 e0 e1 ⟨rfl, rfl⟩
    rw [bgM_s hs2]
    exact ⟨rfl, rqs, sv, hS0, KB.rfl⟩
  | none =>
    have hs2 : S.sv = none := by rw [← es, hs]; rfl
    by_cases hq : rqs = []
    · have hd0 := hD.1
      rw [hs] at hd0
      have hQ := hD.2.1
      rw [hq] at hQ
      refine (c_DK_beginIfIdle_nil l E h dk qu med cs _ _ _ _ _ _ _ hd0 qal qarr hQ).mono2 ?_
      rintro r h1 e0 e1 ⟨rfl, rfl⟩
      rw [bgM_n hs2 (by rw [← eq, hq]; rfl)]
      exact ⟨rfl, rqs, sv, hS0, KB.rfl⟩
    · have hq2 : S.q ≠ [] := fun z => hq (by rw [← eq] at z; exact List.map_eq_nil_iff.mp z)
      obtain ⟨k, r, hk, hr⟩ := chs_ok (tm := S.tm) (wy := S.wy) hq2 i4 i10 i11
      have hr0 := hr
      rw [← eq] at hr
      obtain ⟨r9, hr9, rfl⟩ := map_at hr
      rw [hs] at hD
      refine (c_DK_beginIfIdle_go l E h dk qu qal qarr med cs cal carr rqs S.mf cps r9 k _ _ _ _ _ _ _ hD hq41 hc6 (by rw [eq]; exact hk) hr9).mono2 ?_
      rintro r h1 e0 e1 ⟨rfl, g1, g2, g3⟩
      have S2 := hS.disk e0 e1 (Or.inl rfl) g1 (g2.mono (fun b z => by omega)) (Or.inl rfl) (Or.inl rfl) hS.2.2.2.2.2.2.2.2
      refine ⟨rfl, rqs.eraseIdx k, some r9, ?_, KB.of g2 ?_⟩
      · rw [bgM_2 hs2 hk hr0]
        rw [lc, eq] at S2
        exact ⟨bcs, bal, barr, qu, qal, qarr, cs, cal, carr, bps, cps, S2, eb, by rw [← er_map2, eq]; rfl, ec, rfl⟩
      · intro b e hb z
        obtain ⟨m1, kq⟩ := hD.2.1.2.1.al
        rcases z with z | z | z
        · rw [z, hD.1] at hb; cases hb; exact Or.inr (by show ¬ (5 = 7); decide)
        · rw [z, kq] at hb; cases hb; exact Or.inr (by show ¬ (0 = 7); decide)
        · rw [z] at hb; exact Or.inr (hD.2.1.2.1.noth e0 hb)
theorem c_pue_id (l : Launch) (E : fh_E) (h : fh_H) (bl dk med : Nat) (rqs : List tQ) (sv : Option tQ) (S : mS) (t : Nat) (hS : BLr E h bl dk med rqs sv S) (hI : Inv S t) (hs : S.sv = none) (v : Int32) : fh_Met l y_DK_passUntilEnd w_DK_passUntilEnd ({ frames := 9, cells := 2, slots := 76, locals := 234 }) E [.ref dk, .int v] h (fun r h1 => r = some (.int v) ∧ ∃ rqs2 sv2, BLr E h1 bl dk med rqs2 sv2 (idM S v) ∧ KB h h1 med) 2 76 := by
  obtain ⟨bcs, bal, barr, qu, qal, qarr, cs, cal, carr, bps, cps, hS, eb, eq, ec, es⟩ := hS
  have hI0 := hI
  obtain ⟨i1, i2, i3, i4, i5, i6, i7, i8, i9, i10, i11, i12, n0, hn0, i13⟩ := hI
  have hD := hS.2.2.1
  have hq41 : rqs.length ≤ 41 := by have : (rqs.map (·.2)).length ≤ 40 := by rw [eq]; exact i2
                                    rw [List.length_map] at this; omega
  have hc6 : cps.length ≤ 6 := by have : (cps.map (·.2)).length ≤ 6 := by rw [ec]; exact i3
                                  rw [List.length_map] at this; exact this
  have hB : ∀ c ∈ cps, bOK c.2.1 := fun c hc => i6 c.2 (by rw [← ec]; exact List.mem_map.mpr ⟨c, hc, rfl⟩)
  have lc : cps.length = S.ca.length := by rw [← ec, List.length_map]
  have hs2 : sv = none := by
    cases hz : sv with
    | none => rfl
    | some x => rw [← es, hz] at hs; cases hs
  have hd0 := hD.1
  rw [hs2] at hd0
  refine (c_DK_passUntilEnd_idle l E h dk qu med cs _ _ _ _ _ _ _ hd0 v).mono2 ?_
  rintro r h1 e0 e1 ⟨rfl, hq⟩
  refine ⟨rfl, rqs, sv, ⟨bcs, bal, barr, qu, qal, qarr, cs, cal, carr, bps, cps, hS.upD e0 (by rw [hs2]; exact hq), eb, eq, ec, es⟩, KB.up hd0 (by decide) hq⟩
theorem c_pue_pt (l : Launch) (E : fh_E) (h : fh_H) (bl dk med : Nat) (rqs : List tQ) (sv : Option tQ) (S : mS) (t : Nat) (hS : BLr E h bl dk med rqs sv S) (hI : Inv S t) (u n : Nat) (hs : S.sv ≠ none) (hu : S.ul = nI u) (hu4 : u ≤ 40) (hn : n < u) : fh_Met l y_DK_passUntilEnd w_DK_passUntilEnd ({ frames := 9, cells := 2, slots := 76, locals := 234 }) E [.ref dk, .int (nI n)] h (fun r h1 => r = some (.int (nI n)) ∧ ∃ rqs2 sv2, BLr E h1 bl dk med rqs2 sv2 (ptM S (nI n)) ∧ KB h h1 med) 2 76 := by
  obtain ⟨bcs, bal, barr, qu, qal, qarr, cs, cal, carr, bps, cps, hS, eb, eq, ec, es⟩ := hS
  have hI0 := hI
  obtain ⟨i1, i2, i3, i4, i5, i6, i7, i8, i9, i10, i11, i12, n0, hn0, i13⟩ := hI
  have hD := hS.2.2.1
  have hq41 : rqs.length ≤ 41 := by have : (rqs.map (·.2)).length ≤ 40 := by rw [eq]; exact i2
                                    rw [List.length_map] at this; omega
  have hc6 : cps.length ≤ 6 := by have : (cps.map (·.2)).length ≤ 6 := by rw [ec]; exact i3
                                  rw [List.length_map] at this; exact this
  have hB : ∀ c ∈ cps, bOK c.2.1 := fun c hc => i6 c.2 (by rw [← ec]; exact List.mem_map.mpr ⟨c, hc, rfl⟩)
  have lc : cps.length = S.ca.length := by rw [← ec, List.length_map]
  cases hz : sv with
  | none => rw [← es, hz] at hs; exact absurd rfl hs
  | some r9 =>
    have hd0 := hD.1
    rw [hz, hu] at hd0
    refine (c_DK_passUntilEnd_part l E h dk qu med cs r9.1 _ _ _ _ _ _ u n hn (by omega) hd0).mono2 ?_
    rintro r h1 e0 e1 ⟨rfl, hq⟩
    refine ⟨rfl, rqs, sv, ⟨bcs, bal, barr, qu, qal, qarr, cs, cal, carr, bps, cps, hS.upD e0 (by rw [hz, hq]; show va_up h dk _ = va_up h dk (some (.inr (5, [_, _, _, _, .int (S.ul - nI n), _, _, _, _, _, _]))); rw [hu, pk_sub (by omega)]; rfl), eb, eq, ec, es⟩, KB.up hd0 (by decide) hq⟩
theorem c_pue_end (l : Launch) (E : fh_E) (h : fh_H) (bl dk med : Nat) (rqs : List tQ) (sv : Option tQ) (S : mS) (t : Nat) (hS : BLr E h bl dk med rqs sv S) (hI : Inv S t) (u n : Nat) (hs : S.sv ≠ none) (hu : S.ul = nI u) (hn : u ≤ n) (hn2 : n < 100000) : fh_Met l y_DK_passUntilEnd w_DK_passUntilEnd ({ frames := 9, cells := 2, slots := 76, locals := 234 }) E [.ref dk, .int (nI n)] h (fun r h1 => r = some (.int (nI u)) ∧ ∃ rqs2 sv2, BLr E h1 bl dk med rqs2 sv2 (endM S) ∧ KB h h1 med) 2 76 := by
  obtain ⟨bcs, bal, barr, qu, qal, qarr, cs, cal, carr, bps, cps, hS, eb, eq, ec, es⟩ := hS
  have hI0 := hI
  obtain ⟨i1, i2, i3, i4, i5, i6, i7, i8, i9, i10, i11, i12, n0, hn0, i13⟩ := hI
  have hD := hS.2.2.1
  have hq41 : rqs.length ≤ 41 := by have : (rqs.map (·.2)).length ≤ 40 := by rw [eq]; exact i2
                                    rw [List.length_map] at this; omega
  have hc6 : cps.length ≤ 6 := by have : (cps.map (·.2)).length ≤ 6 := by rw [ec]; exact i3
                                  rw [List.length_map] at this; exact this
  have hB : ∀ c ∈ cps, bOK c.2.1 := fun c hc => i6 c.2 (by rw [← ec]; exact List.mem_map.mpr ⟨c, hc, rfl⟩)
  have lc : cps.length = S.ca.length := by rw [← ec, List.length_map]
  cases hz : sv with
  | none => rw [← es, hz] at hs; exact absurd rfl hs
  | some r9 =>
    have hs2 : S.sv = some r9.2 := by rw [← es, hz]; rfl
    have k3 := (i5 _ hs2).1
    rw [hz, hu] at hD
    refine (c_DK_passUntilEnd_end l E h dk qu qal qarr med cs cal carr rqs S.mf cps r9 _ _ _ _ _ _ u n hn hn2 hD hq41 hc6 hB k3.2 k3.1).mono2 ?_
    rintro r h1 e0 e1 ⟨rfl, q, carr2, g1, g2, g3, g4, g5, g6⟩
    have er := endT_er S.mf cps r9 q
    rw [ec] at er
    have kr := (hD.2.2.2.2.1 r9 rfl).1
    have cz : ∀ b ∈ bps, ∀ c ∈ (endT S.mf cps r9 q).2, b.1 ≠ c.1 := by
      intro b hb c hc
      rcases endT_fr c hc with z | z
      · rw [z]; exact fh_neF (hS.2.1.2.2 b hb) g6
      · exact hS.2.2.2.2.2.2.2.2 b hb c z
    have S2 := hS.disk e0 e1 (r9 := r9.1) (Or.inr ⟨_, kr⟩) g1 (g4.mono (fun b z => by omega)) g2 (Or.inl rfl) cz
    refine ⟨rfl, rqs, none, ?_, KB.of g4 ?_⟩
    · have he : endM S = (mkS S.q ((endX S.mf S.ca r9.2).1) ((endX S.mf S.ca r9.2).2) none 0 (S.tm + S.ul) S.hd S.up S.wy (S.sd + 1) S.il S.bs S.nn S.hi S.mi S.ev S.ab) := by unfold endM; rw [hs2]
      rw [he, hu]
      exact ⟨bcs, bal, barr, qu, qal, qarr, cs, cal, carr2, bps, _, er.1 ▸ S2, eb, eq, er.2, rfl⟩
    · intro b e hb z
      obtain ⟨m2, kc⟩ := hD.2.2.2.1.2.1.al
      rcases z with z | z | z | z | z
      · rw [z, hD.1] at hb; cases hb; exact Or.inr (by show ¬ (5 = 7); decide)
      · rw [z, kc] at hb; cases hb; exact Or.inr (by show ¬ (0 = 7); decide)
      · rw [z] at hb; exact Or.inr (hD.2.2.2.1.2.1.noth e0 hb)
      · exact Or.inl z
      · have kr2 : h r9.1 = _ := kr
        rw [z, kr2] at hb; cases hb; exact Or.inr (by show ¬ (3 = 7); decide)
set_option maxHeartbeats 4000000 in
set_option maxRecDepth 100000 in
theorem c_DK_pass (l : Launch) (E : fh_E) (h : fh_H) (bl dk med : Nat) (rqs : List tQ) (sv : Option tQ) (S : mS) (t : Nat) (n : Nat) (hn1000 : n ≤ 1000) (hB0 : BLr E h bl dk med rqs sv S) (hI : Inv S t) : fh_Met l y_DK_pass w_DK_pass ({ frames := 10, cells := 86, slots := 3268, locals := 256 }) E [.ref dk, .int (nI n)] h (fun r h1 => r = none ∧ ∃ rqs2 sv2, BLr E h1 bl dk med rqs2 sv2 (paM 43 n S) ∧ KB h h1 med) 86 3268 := by
  refine fh_ofW (cc := b_DK_pass) (maxL := 4) (ret := none) (by decide) rfl (Nat.le_of_ble_eq_true rfl) ?_
  intro p e s m below meth c A ls hx hb hr hml hown hts hlocks hname hnoh hadm hA hK hZ hP hS hl
  have hG : ∀ w ∈ G, w.before _ s = true := fun w hw => hts w (List.mem_cons_of_mem _ hw)
  have hown : s.vm.findClass R_DK = some m.cls := hown
  have hl : lv_has ls 4 [(0, .ref dk), (1, .int (nI n))] := hl
  refine lv_iload_n hx hb d_DK_pass_0 rfl (lv_at hl 1 rfl) ?_
  refine lv_istore_n (lv' := [(2, .int (nI n)), (0, .ref dk), (1, .int (nI n))]) hx hb d_DK_pass_1 rfl hl (by decide) rfl (fun ls hl => ?_)
  refine lv_iconst (v := 0) hx hb d_DK_pass_2 (by decide) ?_
  refine lv_istore_n (lv' := [(3, .int 0), (2, .int (nI n)), (0, .ref dk), (1, .int (nI n))]) hx hb d_DK_pass_3 rfl hl (by decide) rfl (fun ls hl => ?_)
  have loop : ∀ (f left i : Nat) (S2 : mS) (rq : List tQ) (s2 : Option tQ) (t2 : Nat) (hw : fh_H) (H : Heap) (locs : List Loc) (cells slots : Nat) (ls : Array Slot), paM 43 n S = paM f left S2 → cnt S2 < f → cells + 2 * f ≤ 86 → slots + 76 * f ≤ 3268 → i + left ≤ n → Inv S2 t2 → BLr E hw bl dk med rq s2 S2 → KB h hw med → lv_has ls 4 [(3, .int (nI i)), (2, .int (nI left)), (0, .ref dk), (1, .int (nI n))] → fh_P E.1 vwCl A hw H → va_S A s.heap H locs → W p l e ({ frames := 10, cells := 86, slots := 3268, locals := 256 }) s m ([.ref dk, .int (nI n)] : List Value).toArray below meth c H locs cells slots (MQ below (fh_Post E (fun r h1 => r = none ∧ ∃ rqs2 sv2, BLr E h1 bl dk med rqs2 sv2 (paM 43 n S) ∧ KB h h1 med) A) ([.ref dk, .int (nI n)] : List Value).toArray s 86 3268 A) (F0 m 4 ls []) := by
    intro f
    induction f with
    | zero => intro left i S2 rq s2 t2 hw H locs cells slots ls _ hc; omega
    | succ f ih =>
      intro left i S2 rq s2 t2 hw H locs cells slots ls ep hc c1 c2 hil hI2 hB2 hk hl hP hS
      refine lv_iload_n hx hb d_DK_pass_4 rfl (lv_at hl 0 rfl) ?_
      refine lv_iload_n hx hb d_DK_pass_5 rfl (lv_at hl 3 rfl) ?_
      refine lv_icmp_ge (tgt := 31) hx hb d_DK_pass_6 (by decide) (fun c_1 => ?_) (fun c_1 => ?_)
      · skip
        have hz : left = 0 := by have := (nI_leI (by omega) (by omega)).mp c_1; omega
        have e9 : paM 43 n S = S2 := by rw [ep, hz]; unfold paM; rw [if_pos rfl]
        exact fh_vret hx hb hr hlocks (by omega) (by omega) hP hS ⟨rfl, rq, s2, e9 ▸ hB2, hk⟩ d_DK_pass_31
      · skip
        refine lv_iload_n hx hb d_DK_pass_9 rfl (lv_at hl 1 rfl) ?_
        refine lv_if_le (tgt := 31) hx hb d_DK_pass_10 (by decide) (fun c_2 => ?_) (fun c_2 => ?_)
        · skip
          have hz : left = 0 := by have := (nI_leI (a := left) (b := 0) (by omega) (by omega)).mp c_2; omega
          have e9 : paM 43 n S = S2 := by rw [ep, hz]; unfold paM; rw [if_pos rfl]
          exact fh_vret hx hb hr hlocks (by omega) (by omega) hP hS ⟨rfl, rq, s2, e9 ▸ hB2, hk⟩ d_DK_pass_31
        · skip
          have hl0 : 0 < left := by
            rcases Nat.eq_zero_or_pos left with z | z
            · rw [z] at c_2; exact absurd (show nI 0 ≤ 0 by decide) c_2
            · exact z
          obtain ⟨fs0, hdk⟩ := hB2.dk
          refine lv_aload_n hx hb d_DK_pass_13 rfl (lv_at hl 2 rfl) ?_
          refine fh_callV (C := R_DK) (y := y_DK_beginIfIdle) (bytes := b_DK_beginIfIdle) (maxL := 3) (ret := none) (index := 45) (As := []) (rest := []) ⟨hx, hb, hml, hown, hG⟩ (c_bg l E hw bl dk med rq s2 S2 t2 hB2 hI2) (cwV 0 hG (gV gm172 gm174 gs_DK_beginIfIdle gm6 gm175) rfl rfl rfl ⟨rfl, hdy_DK_beginIfIdle⟩ ⟨Nat.le_of_ble_eq_true rfl, Nat.le_of_ble_eq_true rfl⟩) C_DK.1 hdk hK hZ hP hS hA rfl hl.1 rfl (Nat.le_of_ble_eq_true rfl) d_DK_pass_14 ⟨show cells + 0 ≤ 86 by omega, show slots + 0 ≤ 3268 by omega⟩ (fun r h1 H locs hq9 hP hS => ?_)
          obtain ⟨rfl, rq3, s3, B3, K3⟩ := hq9
          obtain ⟨J1, J2, J3⟩ := hI2.bg
          refine W.eq (g2 := F0 m 17 ls []) rfl ?_
          obtain ⟨fs1, hdk1⟩ := B3.dk
          refine lv_iload_n hx hb d_DK_pass_17 rfl (lv_at hl 1 rfl) ?_
          refine lv_aload_n hx hb d_DK_pass_18 rfl (lv_at hl 2 rfl) ?_
          refine lv_iload_n hx hb d_DK_pass_19 rfl (lv_at hl 1 rfl) ?_
          cases hs3 : (bgM S2).sv with
          | none =>
            refine fh_callV (C := R_DK) (y := y_DK_passUntilEnd) (bytes := b_DK_passUntilEnd) (maxL := 3) (ret := (some .int)) (index := 48) (As := [.int (nI left)]) (rest := [.int (nI left)]) ⟨hx, hb, hml, hown, hG⟩ (c_pue_id l E h1 bl dk med rq3 s3 (bgM S2) t2 B3 J1 hs3 (nI left)) (cwV 1 hG (gV gm245 gm247 gs_DK_passUntilEnd gm6 gm248) rfl rfl rfl ⟨rfl, hdy_DK_passUntilEnd⟩ ⟨Nat.le_of_ble_eq_true rfl, Nat.le_of_ble_eq_true rfl⟩) C_DK.1 hdk1 hK hZ hP hS hA rfl hl.1 rfl (Nat.le_of_ble_eq_true rfl) d_DK_pass_20 ⟨show cells + 0 + 2 ≤ 86 by omega, show slots + 0 + 76 ≤ 3268 by omega⟩ (fun r h2 H locs hq9 hP hS => ?_)
            obtain ⟨rfl, rq4, s4, B4, K4⟩ := hq9
            refine W.eq (g2 := F0 m 23 ls [.int (nI left), .int (nI left)]) rfl ?_
            refine lv_isub hx hb d_DK_pass_23 ?_
            refine W.eq (g2 := F0 m 24 ls [.int (nI (left - left))]) (by rw [pk_sub (by omega)]) ?_
            refine lv_istore_n (lv' := [(2, .int (nI (left - left))), (3, .int (nI i)), (0, .ref dk), (1, .int (nI n))]) hx hb d_DK_pass_24 rfl hl (by decide) rfl (fun ls hl => ?_)
            refine lv_iinc (v := ((nI i)) + 1) (lv' := [(3, .int (((nI i)) + 1)), (2, .int (nI (left - left))), (0, .ref dk), (1, .int (nI n))]) hx hb d_DK_pass_25 hl (k := 1) rfl rfl (by decide) rfl (fun ls hl => ?_)
            have e5 : paM (f + 1) left S2 = idM (bgM S2) (nI left) := by
              show (if left = 0 then S2 else _) = _
              rw [if_neg (by omega), hs3]
            refine W.eq (g2 := F0 m 28 ls []) rfl ?_
            refine lv_goto (tgt := 4) hx hb d_DK_pass_28 (by decide) ?_
            refine lv_iload_n hx hb d_DK_pass_4 rfl (lv_at hl 0 rfl) ?_
            refine lv_iload_n hx hb d_DK_pass_5 rfl (lv_at hl 3 rfl) ?_
            refine lv_icmp_ge (tgt := 31) hx hb d_DK_pass_6 (by decide) (fun c_3 => ?_) (fun c_3 => ?_)
            · skip
              exact fh_vret hx hb hr hlocks (by omega) (by omega) hP hS ⟨rfl, rq4, s4, (show paM 43 n S = idM (bgM S2) (nI left) by rw [ep, e5]) ▸ B4, (hk.trans K3).trans K4⟩ d_DK_pass_31
            · skip
              refine lv_iload_n hx hb d_DK_pass_9 rfl (lv_at hl 1 rfl) ?_
              refine lv_if_le (tgt := 31) hx hb d_DK_pass_10 (by decide) (fun c_4 => ?_) (fun c_4 => ?_)
              · skip
                exact fh_vret hx hb hr hlocks (by omega) (by omega) hP hS ⟨rfl, rq4, s4, (show paM 43 n S = idM (bgM S2) (nI left) by rw [ep, e5]) ▸ B4, (hk.trans K3).trans K4⟩ d_DK_pass_31
              · skip
                exact absurd (show nI (left - left) ≤ 0 by rw [Nat.sub_self]; decide) c_4
          | some r9 =>
            obtain ⟨u, u1, u2, u3, u4⟩ := J1.ulu hs3
            have hne : (bgM S2).sv ≠ none := by rw [hs3]; exact fun z => by cases z
            by_cases w : left < u
            · skip
              refine fh_callV (C := R_DK) (y := y_DK_passUntilEnd) (bytes := b_DK_passUntilEnd) (maxL := 3) (ret := (some .int)) (index := 48) (As := [.int (nI left)]) (rest := [.int (nI left)]) ⟨hx, hb, hml, hown, hG⟩ (c_pue_pt l E h1 bl dk med rq3 s3 (bgM S2) t2 B3 J1 u left hne u1 u4 w) (cwV 1 hG (gV gm245 gm247 gs_DK_passUntilEnd gm6 gm248) rfl rfl rfl ⟨rfl, hdy_DK_passUntilEnd⟩ ⟨Nat.le_of_ble_eq_true rfl, Nat.le_of_ble_eq_true rfl⟩) C_DK.1 hdk1 hK hZ hP hS hA rfl hl.1 rfl (Nat.le_of_ble_eq_true rfl) d_DK_pass_20 ⟨show cells + 0 + 2 ≤ 86 by omega, show slots + 0 + 76 ≤ 3268 by omega⟩ (fun r h2 H locs hq9 hP hS => ?_)
              obtain ⟨rfl, rq4, s4, B4, K4⟩ := hq9
              refine W.eq (g2 := F0 m 23 ls [.int (nI left), .int (nI left)]) rfl ?_
              refine lv_isub hx hb d_DK_pass_23 ?_
              refine W.eq (g2 := F0 m 24 ls [.int (nI (left - left))]) (by rw [pk_sub (by omega)]) ?_
              refine lv_istore_n (lv' := [(2, .int (nI (left - left))), (3, .int (nI i)), (0, .ref dk), (1, .int (nI n))]) hx hb d_DK_pass_24 rfl hl (by decide) rfl (fun ls hl => ?_)
              refine lv_iinc (v := ((nI i)) + 1) (lv' := [(3, .int (((nI i)) + 1)), (2, .int (nI (left - left))), (0, .ref dk), (1, .int (nI n))]) hx hb d_DK_pass_25 hl (k := 1) rfl rfl (by decide) rfl (fun ls hl => ?_)
              have e5 : paM (f + 1) left S2 = ptM (bgM S2) (nI left) := by
                show (if left = 0 then S2 else _) = _
                rw [if_neg (by omega), hs3]
                simp only []
                rw [u2, if_pos w]
              refine W.eq (g2 := F0 m 28 ls []) rfl ?_
              refine lv_goto (tgt := 4) hx hb d_DK_pass_28 (by decide) ?_
              refine lv_iload_n hx hb d_DK_pass_4 rfl (lv_at hl 0 rfl) ?_
              refine lv_iload_n hx hb d_DK_pass_5 rfl (lv_at hl 3 rfl) ?_
              refine lv_icmp_ge (tgt := 31) hx hb d_DK_pass_6 (by decide) (fun c_5 => ?_) (fun c_5 => ?_)
              · skip
                exact fh_vret hx hb hr hlocks (by omega) (by omega) hP hS ⟨rfl, rq4, s4, (show paM 43 n S = ptM (bgM S2) (nI left) by rw [ep, e5]) ▸ B4, (hk.trans K3).trans K4⟩ d_DK_pass_31
              · skip
                refine lv_iload_n hx hb d_DK_pass_9 rfl (lv_at hl 1 rfl) ?_
                refine lv_if_le (tgt := 31) hx hb d_DK_pass_10 (by decide) (fun c_6 => ?_) (fun c_6 => ?_)
                · skip
                  exact fh_vret hx hb hr hlocks (by omega) (by omega) hP hS ⟨rfl, rq4, s4, (show paM 43 n S = ptM (bgM S2) (nI left) by rw [ep, e5]) ▸ B4, (hk.trans K3).trans K4⟩ d_DK_pass_31
                · skip
                  exact absurd (show nI (left - left) ≤ 0 by rw [Nat.sub_self]; decide) c_6
            · skip
              refine fh_callV (C := R_DK) (y := y_DK_passUntilEnd) (bytes := b_DK_passUntilEnd) (maxL := 3) (ret := (some .int)) (index := 48) (As := [.int (nI left)]) (rest := [.int (nI left)]) ⟨hx, hb, hml, hown, hG⟩ (c_pue_end l E h1 bl dk med rq3 s3 (bgM S2) t2 B3 J1 u left hne u1 (by omega) (by omega)) (cwV 1 hG (gV gm245 gm247 gs_DK_passUntilEnd gm6 gm248) rfl rfl rfl ⟨rfl, hdy_DK_passUntilEnd⟩ ⟨Nat.le_of_ble_eq_true rfl, Nat.le_of_ble_eq_true rfl⟩) C_DK.1 hdk1 hK hZ hP hS hA rfl hl.1 rfl (Nat.le_of_ble_eq_true rfl) d_DK_pass_20 ⟨show cells + 0 + 2 ≤ 86 by omega, show slots + 0 + 76 ≤ 3268 by omega⟩ (fun r h2 H locs hq9 hP hS => ?_)
              obtain ⟨rfl, rq4, s4, B4, K4⟩ := hq9
              refine W.eq (g2 := F0 m 23 ls [.int (nI u), .int (nI left)]) rfl ?_
              refine lv_isub hx hb d_DK_pass_23 ?_
              refine W.eq (g2 := F0 m 24 ls [.int (nI (left - u))]) (by rw [pk_sub (by omega)]) ?_
              refine lv_istore_n (lv' := [(2, .int (nI (left - u))), (3, .int (nI i)), (0, .ref dk), (1, .int (nI n))]) hx hb d_DK_pass_24 rfl hl (by decide) rfl (fun ls hl => ?_)
              refine lv_iinc (v := ((nI i)) + 1) (lv' := [(3, .int (((nI i)) + 1)), (2, .int (nI (left - u))), (0, .ref dk), (1, .int (nI n))]) hx hb d_DK_pass_25 hl (k := 1) rfl rfl (by decide) rfl (fun ls hl => ?_)
              have e5 : paM (f + 1) left S2 = paM f (left - u) (endM (bgM S2)) := by
                show (if left = 0 then S2 else _) = _
                rw [if_neg (by omega), hs3]
                simp only []
                rw [u2, if_neg w]
              refine W.eq (g2 := F0 m 28 ls []) rfl ?_
              refine lv_goto (tgt := 4) hx hb d_DK_pass_28 (by decide) ?_
              obtain ⟨E1, E2, E3⟩ := J1.end hs3 u1
              exact ih (left - u) (i + 1) (endM (bgM S2)) rq4 s4 _ h2 H locs _ _ ls (ep.trans e5) (by omega) (by omega) (by omega) (by omega) E1 B4 ((hk.trans K3).trans K4) (by rw [nI_succ]; exact hl) hP hS
  exact loop 43 n 0 S rqs sv t h _ _ 0 0 _ rfl (by have := hI.q40; unfold cnt; split <;> omega) (by omega) (by omega) (by omega) hI hB0 KB.rfl (by rw [nI_0]; exact hl) hP hS

