/-! THE REFERENCE: the ties that each change keeps. -/
theorem RM.beg {sc sc1 : Nat → Int32} {ar ar1 : Nat → Nat → Int32} {S : mS} {k : Nat} {r : mQ} (hR : RM sc ar S) (hs : S.sv = none) (hc : (chs S.q S.tm S.hd S.up S.wy).1 = some k) (hr : S.q[k]? = some r) (ej : ∀ j, j < 15 ∨ (15 < j ∧ j < 24) → sc1 j = sc j) (e15 : sc1 15 = nI (S.q.length - 1)) (e24 : sc1 24 = begH r S.hd) (e25 : sc1 25 = (chs S.q S.tm S.hd S.up S.wy).2) (e26 : sc1 26 = 1) (e27 : sc1 27 = S.tm + begU r S.ca.length S.hd) (ho : ∀ k, k < 16 ∨ 20 < k → ar1 k = ar k) (hq : qL ar1 (S.q.eraseIdx k)) (h40 : rA ar1 40 r) : RM sc1 ar1 (begM S) := by
  have hu := (hR.2.2.2.2.2.2.2.2.2).beg hs
  have eb := bgM_2 hs hc hr
  rw [show bgM S = begM S by unfold bgM; rw [hs]] at eb
  rw [eb] at hu ⊢
  obtain ⟨⟨a1, a2, a3, a4, a5, a6, a7, a8⟩, a9, ⟨a10, a11, a12⟩, a14, ⟨a15, a16⟩, ⟨a21, a22⟩, ⟨a24, a25⟩, a26, a27, a28⟩ := hR
  have hl := (List.getElem?_eq_some_iff.mp hr).1
  refine ⟨⟨(ej 1 (by omega)).trans a1, (ej 2 (by omega)).trans a2, (ej 3 (by omega)).trans a3, (ej 4 (by omega)).trans a4, (ej 5 (by omega)).trans a5, (ej 6 (by omega)).trans a6, (ej 7 (by omega)).trans a7, (ej 8 (by omega)).trans a8⟩, fun b hb => by rw [ho 9 (by omega)]; exact a9 b hb, ⟨(ej 10 (by omega)).trans a10, fun j c hj => by rw [ho 11 (by omega), ho 12 (by omega), ho 13 (by omega)]; exact a11 j c hj, a12⟩, (ej 14 (by omega)).trans a14, ⟨?_, hq⟩, ⟨(ej 21 (by omega)).trans a21, fun j c hj => by rw [ho 22 (by omega), ho 23 (by omega)]; exact a22 j c hj⟩, ⟨e24, e25⟩, fun z => (by cases z), fun x hx => ?_, hu⟩
  · show sc1 15 = nI (S.q.eraseIdx k).length
    rw [List.length_eraseIdx, if_pos hl]; exact e15
  · cases hx
    exact ⟨e26, h40, e27⟩
theorem RM.end {sc sc1 : Nat → Int32} {ar ar1 : Nat → Nat → Int32} {S : mS} {r : mQ} (hR : RM sc ar S) (hs : S.sv = some r) (ej : ∀ j, j ≠ 1 → j ≠ 7 → j ≠ 21 → j ≠ 26 → j ≠ 28 → sc1 j = sc j) (e1 : sc1 1 = sc 27) (e7 : sc1 7 = sc 7 + 1) (e21 : sc1 21 = nI (endX S.mf S.ca r).2.length) (e26 : sc1 26 = 0) (ho : ∀ k, k ≠ 9 → k < 22 → ar1 k = ar k) (hm : ∀ b, b < 256 → ar1 9 b = (endX S.mf S.ca r).1 b) (hc : cL ar1 (endX S.mf S.ca r).2) : RM sc1 ar1 (endM S) := by
  have hu := (hR.2.2.2.2.2.2.2.2.2).end
  unfold endM at hu ⊢
  rw [hs] at hu ⊢
  simp only [] at hu ⊢
  obtain ⟨⟨a1, a2, a3, a4, a5, a6, a7, a8⟩, a9, ⟨a10, a11, a12⟩, a14, ⟨a15, a16⟩, ⟨a21, a22⟩, ⟨a24, a25⟩, a26, a27, a28⟩ := hR
  obtain ⟨b1, b2, b3⟩ := a27 r hs
  have E : ∀ j, j ≠ 1 ∧ j ≠ 7 ∧ j ≠ 21 ∧ j ≠ 26 ∧ j ≠ 28 → sc1 j = sc j := fun j ⟨z1, z2, z3, z4, z5⟩ => ej j z1 z2 z3 z4 z5
  refine ⟨⟨e1.trans b3, (E 2 (by omega)).trans a2, (E 3 (by omega)).trans a3, (E 4 (by omega)).trans a4, (E 5 (by omega)).trans a5, (E 6 (by omega)).trans a6, by rw [e7, a7]; rfl, (E 8 (by omega)).trans a8⟩, hm, ⟨(E 10 (by omega)).trans a10, fun j c hj => by rw [ho 11 (by omega) (by omega), ho 12 (by omega) (by omega), ho 13 (by omega) (by omega)]; exact a11 j c hj, a12⟩, (E 14 (by omega)).trans a14, ⟨(E 15 (by omega)).trans a15, fun j c hj => by rw [ho 16 (by omega) (by omega), ho 17 (by omega) (by omega), ho 18 (by omega) (by omega), ho 19 (by omega) (by omega), ho 20 (by omega) (by omega)]; exact a16 j c hj⟩, ⟨e21, hc⟩, ⟨(E 24 (by omega)).trans a24, (E 25 (by omega)).trans a25⟩, fun _ => e26, fun x hx => (by cases hx), hu⟩
theorem RM.stv {sc : Nat → Int32} {ar : Nat → Nat → Int32} {S : mS} {k : Nat} {b v : Int32} (hR : RM sc ar S) (h : laN S.q b S.q.length = some k) (hk : S.q[k]?.map (·.2.1) = some 1) (hq : S.q.length ≤ 40) : RM (upd sc 6 (sc 6 + 1)) (va_up ar 19 (upd (ar 19) k v)) (askM S 1 b v) := by
  have hu := (hR.2.2.2.2.2.2.2.2.2).stv (v := v) (ab := S.ab + 1) hk
  rw [show askM S 1 b v = wbM S (b, v, 0) from if_pos rfl, wbM_1 h hk]
  obtain ⟨⟨a1, a2, a3, a4, a5, a6, a7, a8⟩, a9, ⟨a10, a11, a12⟩, a14, ⟨a15, a16⟩, ⟨a21, a22⟩, ⟨a24, a25⟩, a26, a27, a28⟩ := hR
  have hlt := laN_lt _ _ _ _ h
  refine ⟨⟨a1, a2, a3, a4, a5, ?_, a7, a8⟩, a9, ⟨a10, a11, a12⟩, a14, ⟨?_, qL_stV a16⟩, ⟨a21, a22⟩, ⟨a24, a25⟩, a26, fun r hr => ?_, hu⟩
  · show sc 6 + 1 = S.ab + 1
    rw [a6]
  · show sc 15 = nI (stV S.q k v).length
    rw [stV_len]; exact a15
  · obtain ⟨b1, ⟨c1, c2, c3, c4, c5⟩, b3⟩ := a27 r hr
    refine ⟨b1, ⟨c1, c2, c3, c4, ?_⟩, b3⟩
    show upd (ar 19) k v 40 = _
    unfold upd
    rw [if_neg (by omega)]; exact c5
theorem RM.add {sc : Nat → Int32} {ar : Nat → Nat → Int32} {S : mS} {k b v : Int32} {N : Nat} (hR : RM sc ar S) (hN : NB S N) (hN2 : N < 2 ^ 31) (hv : k ≠ 1 → v = 0) (hq : S.q.length < 40) : RM (upd (upd sc 14 (sc 14 + 1)) 15 (sc 15 + 1)) (lyA ar S.q.length (S.nn, k, b, S.tm, v)) (addM S k b v) := by
  have hu := (hR.2.2.2.2.2.2.2.2.2).add (b := b) hN hN2 hv
  obtain ⟨⟨a1, a2, a3, a4, a5, a6, a7, a8⟩, a9, ⟨a10, a11, a12⟩, a14, ⟨a15, a16⟩, ⟨a21, a22⟩, ⟨a24, a25⟩, a26, a27, a28⟩ := hR
  refine ⟨⟨a1, a2, a3, a4, a5, a6, a7, a8⟩, a9, ⟨a10, a11, a12⟩, ?_, ⟨?_, qL_ly a16⟩, ⟨a21, a22⟩, ⟨a24, a25⟩, a26, fun r hr => ?_, hu⟩
  · show sc 14 + 1 = S.nn + 1
    rw [a14]
  · show sc 15 + 1 = nI (S.q ++ [(S.nn, k, b, S.tm, v)]).length
    rw [a15, nI_1, List.length_append]; rfl
  · obtain ⟨b1, b2, b3⟩ := a27 r hr
    exact ⟨b1, lyA_ne (by omega) b2, b3⟩
def setB (S : mS) (bs : List mC) : mS := (mkS S.q S.mf S.ca S.sv S.ul S.tm S.hd S.up S.wy S.sd S.il bs S.nn S.hi S.mi S.ev S.ab)
theorem RM.bs {sc sc1 : Nat → Int32} {ar ar1 : Nat → Nat → Int32} {S : mS} {bs : List mC} (hR : RM sc ar S) (e10 : sc1 10 = nI bs.length) (ej : ∀ j, j ≠ 10 → sc1 j = sc j) (ho : ∀ k, k < 11 ∨ 13 < k → ar1 k = ar k) (hb : bL ar1 bs) (hz : bZ bs) : RM sc1 ar1 (setB S bs) := by
  obtain ⟨⟨a1, a2, a3, a4, a5, a6, a7, a8⟩, a9, ⟨a10, a11, a12⟩, a14, ⟨a15, a16⟩, ⟨a21, a22⟩, ⟨a24, a25⟩, a26, a27, a28⟩ := hR
  refine ⟨⟨(ej 1 (by omega)).trans a1, (ej 2 (by omega)).trans a2, (ej 3 (by omega)).trans a3, (ej 4 (by omega)).trans a4, (ej 5 (by omega)).trans a5, (ej 6 (by omega)).trans a6, (ej 7 (by omega)).trans a7, (ej 8 (by omega)).trans a8⟩, fun b hb => by rw [ho 9 (by omega)]; exact a9 b hb, ⟨e10, hb, hz⟩, (ej 14 (by omega)).trans a14, ⟨(ej 15 (by omega)).trans a15, fun j c hj => by rw [ho 16 (by omega), ho 17 (by omega), ho 18 (by omega), ho 19 (by omega), ho 20 (by omega)]; exact a16 j c hj⟩, ⟨(ej 21 (by omega)).trans a21, fun j c hj => by rw [ho 22 (by omega), ho 23 (by omega)]; exact a22 j c hj⟩, ⟨(ej 24 (by omega)).trans a24, (ej 25 (by omega)).trans a25⟩, fun z => (ej 26 (by omega)).trans (a26 z), fun r hr => ?_, a28⟩
  obtain ⟨b1, b2, b3⟩ := a27 r hr
  refine ⟨(ej 26 (by omega)).trans b1, ?_, (ej 27 (by omega)).trans b3⟩
  unfold rA
  rw [ho 16 (by omega), ho 17 (by omega), ho 18 (by omega), ho 19 (by omega), ho 20 (by omega)]; exact b2
theorem RM.code {sc : Nat → Int32} {ar : Nat → Nat → Int32} {S : mS} {v : Int32} (hR : RM sc ar S) : RM (upd sc 0 v) ar S := hR
theorem RM.hit {sc : Nat → Int32} {ar : Nat → Nat → Int32} {S : mS} (hR : RM sc ar S) : RM (upd sc 3 (sc 3 + 1)) ar (hitM S) := by
  obtain ⟨⟨a1, a2, a3, a4, a5, a6, a7, a8⟩, a9⟩ := hR
  exact ⟨⟨a1, a2, show sc 3 + 1 = S.hi + 1 by rw [a3], a4, a5, a6, a7, a8⟩, a9⟩
theorem RM.mis {sc : Nat → Int32} {ar : Nat → Nat → Int32} {S : mS} (hR : RM sc ar S) : RM (upd sc 4 (sc 4 + 1)) ar (misM S) := by
  obtain ⟨⟨a1, a2, a3, a4, a5, a6, a7, a8⟩, a9⟩ := hR
  exact ⟨⟨a1, a2, a3, show sc 4 + 1 = S.mi + 1 by rw [a4], a5, a6, a7, a8⟩, a9⟩
theorem RM.ev {sc : Nat → Int32} {ar : Nat → Nat → Int32} {S : mS} (hR : RM sc ar S) : RM (upd sc 5 (sc 5 + 1)) ar (evM S S.bs) := by
  obtain ⟨⟨a1, a2, a3, a4, a5, a6, a7, a8⟩, a9⟩ := hR
  exact ⟨⟨a1, a2, a3, a4, show sc 5 + 1 = S.ev + 1 by rw [a5], a6, a7, a8⟩, a9⟩
theorem RM.po {sc : Nat → Int32} {ar : Nat → Nat → Int32} {S : mS} {w : Int32} (hR : RM sc ar S) : RM (upd sc 8 w) ar (poM S w) := by
  obtain ⟨⟨a1, a2, a3, a4, a5, a6, a7, a8⟩, a9⟩ := hR
  exact ⟨⟨a1, a2, a3, a4, a5, a6, a7, rfl⟩, a9⟩
theorem RM.id {sc : Nat → Int32} {ar : Nat → Nat → Int32} {S : mS} {v to w : Int32} (hR : RM sc ar S) (hs : S.sv = none) (ht : to = S.tm + v) (hw : w = S.il + v) : RM (upd (upd sc 2 w) 1 to) ar (idM S v) := by
  obtain ⟨⟨a1, a2, a3, a4, a5, a6, a7, a8⟩, a9, a10, a14, a15, a21, a24, a26, a27, a28⟩ := hR
  refine ⟨⟨ht, hw, a3, a4, a5, a6, a7, a8⟩, a9, a10, a14, a15, a21, a24, a26, fun r hr => ?_, a28⟩
  have hr : S.sv = some r := hr
  rw [hs] at hr; cases hr
theorem RM.pt {sc : Nat → Int32} {ar : Nat → Nat → Int32} {S : mS} {v to w : Int32} (hR : RM sc ar S) (ht : to = S.tm + v) (hw : w = S.il) : RM (upd (upd sc 2 w) 1 to) ar (ptM S v) := by
  obtain ⟨⟨a1, a2, a3, a4, a5, a6, a7, a8⟩, a9, a10, a14, a15, a21, a24, a26, a27, a28⟩ := hR
  refine ⟨⟨ht, hw, a3, a4, a5, a6, a7, a8⟩, a9, a10, a14, a15, a21, a24, a26, fun r hr => ?_, a28⟩
  obtain ⟨b1, b2, b3⟩ := a27 r hr
  refine ⟨b1, b2, ?_⟩
  show sc 27 = (S.tm + v) + (S.ul - v)
  rw [b3, Int32.sub_eq_add_neg, Int32.add_assoc, Int32.add_comm S.ul, ← Int32.add_assoc v, Int32.add_right_neg, Int32.zero_add]
theorem RM.cr {sc : Nat → Int32} {ar : Nat → Nat → Int32} {S : mS} (hR : RM sc ar S) : RM (upd (upd (upd (upd (upd (upd sc 10 0) 15 0) 21 0) 26 0) 24 0) 25 1) ar (crM S) := by
  obtain ⟨⟨a1, a2, a3, a4, a5, a6, a7, a8⟩, a9, a10, a14, a15, a21, a24, a26, a27, a28⟩ := hR
  exact ⟨⟨a1, a2, a3, a4, a5, a6, a7, a8⟩, a9, ⟨rfl, fun k c h => (by cases h), fun c h => (by cases h)⟩, a14, ⟨rfl, fun k c h => (by cases h)⟩, ⟨rfl, fun k c h => (by cases h)⟩, ⟨rfl, rfl⟩, fun _ => rfl, fun r h => (by cases h), ⟨List.nodup_nil, fun r h => (by cases h)⟩⟩
theorem RM.s0 {sc : Nat → Int32} {ar : Nat → Nat → Int32} (h1 : ∀ k, k ≠ 8 → k ≠ 25 → sc k = 0) (h8 : sc 8 = 3) (h25 : sc 25 = 1) (h9 : ∀ b, ar 9 b = 0) : RM sc ar S0 := by
  have E : ∀ k, k ≠ 8 ∧ k ≠ 25 → sc k = 0 := fun k z => h1 k z.1 z.2
  exact ⟨⟨E 1 (by omega), E 2 (by omega), E 3 (by omega), E 4 (by omega), E 5 (by omega), E 6 (by omega), E 7 (by omega), h8⟩, fun b _ => h9 b, ⟨E 10 (by omega), fun k c h => (by cases h), fun c h => (by cases h)⟩, E 14 (by omega), ⟨E 15 (by omega), fun k c h => (by cases h)⟩, ⟨E 21 (by omega), fun k c h => (by cases h)⟩, ⟨E 24 (by omega), h25⟩, fun _ => E 26 (by omega), fun r h => (by cases h), ⟨List.nodup_nil, fun r h => (by cases h)⟩⟩
/-- buffers in the arrays -/
def lyB (ar : Nat → Nat → Int32) (j : Nat) (b v d : Int32) : Nat → Nat → Int32 := va_up (va_up (va_up ar 11 (upd (ar 11) j b)) 12 (upd (ar 12) j v)) 13 (upd (ar 13) j d)
theorem lyB_o {ar : Nat → Nat → Int32} {j k : Nat} {b v d : Int32} (hk : k < 11 ∨ 13 < k) : lyB ar j b v d k = ar k := by
  have : k ≠ 11 ∧ k ≠ 12 ∧ k ≠ 13 := by omega
  simp [lyB, va_up, this]
theorem bL_ly {ar : Nat → Nat → Int32} {bs : List mC} {b v d : Int32} (h : bL ar bs) : bL (lyB ar bs.length b v d) (bs ++ [(b, v, d)]) := by
  intro j c hj
  by_cases z : j < bs.length
  · rw [List.getElem?_append_left z] at hj
    obtain ⟨g1, g2, g3⟩ := h j c hj
    have : j ≠ bs.length := by omega
    exact ⟨by simp [lyB, va_up, upd, this, g1], by simp [lyB, va_up, upd, this, g2], by simp [lyB, va_up, upd, this, g3]⟩
  · have hl := (List.getElem?_eq_some_iff.mp hj).1
    rw [List.length_append] at hl
    have e : j = bs.length := by simp at hl; omega
    subst e
    have : (b, v, d) = c := by simpa using hj
    subst this
    exact ⟨by simp [lyB, va_up, upd], by simp [lyB, va_up, upd], by simp [lyB, va_up, upd]⟩
theorem bZ_ap {bs : List mC} {b v d : Int32} (h : bZ bs) (hd : d = 0 ∨ d = 1) : bZ (bs ++ [(b, v, d)]) := fun c hc => by
  rcases List.mem_append.mp hc with w | w
  · exact h c w
  · simp at w; subst w; exact hd
theorem bZ_er {bs : List mC} {j : Nat} (h : bZ bs) : bZ (bs.eraseIdx j) := fun c hc => h c (List.mem_of_mem_eraseIdx hc)
theorem bZ_cl {bs : List mC} {b : Int32} (h : bZ bs) : bZ (clL bs b) := fun c hc => by
  obtain ⟨d, hd, e⟩ := List.mem_map.mp hc
  subst e
  show (if d.1 = b then (d.1, d.2.1, 0) else d).2.2 = 0 ∨ (if d.1 = b then (d.1, d.2.1, 0) else d).2.2 = 1
  split
  · exact Or.inl rfl
  · exact h d hd
/-- the buffer of block b is clean now -/
theorem bL_cl {ar : Nat → Nat → Int32} {bs : List mC} {b : Int32} {j : Nat} {c0 : mC} (h : bL ar bs) (hn : (bs.map (·.1)).Nodup) (hj : bs[j]? = some c0) (hb : c0.1 = b) : bL (va_up ar 13 (upd (ar 13) j 0)) (clL bs b) := by
  intro k c hk
  unfold clL at hk
  rw [List.getElem?_map] at hk
  cases hd : bs[k]? with
  | none => rw [hd] at hk; cases hk
  | some d =>
    rw [hd] at hk
    obtain ⟨g1, g2, g3⟩ := h k d hd
    have hk : (if d.1 = b then (d.1, d.2.1, (0 : Int32)) else d) = c := by simpa using hk
    by_cases z : k = j
    · subst z
      rw [hj] at hd; cases hd
      rw [if_pos hb] at hk
      subst hk
      exact ⟨g1, g2, by simp [va_up, upd]⟩
    · have : ¬ d.1 = b := fun w => z (nd_at hn hd hj (w.trans hb.symm))
      rw [if_neg this] at hk
      subst hk
      exact ⟨g1, g2, by simp [va_up, upd, z, g3]⟩
