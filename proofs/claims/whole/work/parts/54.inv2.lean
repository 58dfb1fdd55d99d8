/-! WHAT STAYS TRUE IN THE MODEL: load, sync, policy, crash. -/
theorem Inv.load {S : mS} {t N : Nat} {b : Int32} (h : Inv S t) (n : NB S N) (hb : bOK b) (hq : S.q.length + 2 ≤ 40) : Inv (loadM S b).1 (t + 1640) ∧ ∃ N2, N2 ≤ N + 2 ∧ NB (loadM S b).1 N2 := by
  unfold loadM
  cases hf : bfM S b with
  | some c =>
    have h1 : Inv (hitM S) t := h
    exact ⟨(h1.put hb (ep_lt hf h.bs10)).le (by omega), N, by omega, n⟩
  | none =>
    have h1 : Inv (misM S) t := h
    have n1 : NB (misM S) N := n
    obtain ⟨r1, r2⟩ := h1.room (show S.q.length < 40 by omega)
    obtain ⟨N2, k1, k2, k3⟩ := n1.room
    have k3 : (roomM (misM S)).q.length ≤ S.q.length + 1 := k3
    have r3 := r1.add (k := 0) (b := b) (v := 0) (by omega) ⟨Or.inl rfl, fun _ => hb⟩
    obtain ⟨a1, a2, a3⟩ := Inv.ld 41 (roomM (misM S)).nn r3 k2.add
    refine ⟨(a1.put hb (Nat.lt_of_le_of_lt List.length_eraseP_le ?_)).le (by omega), N2 + 1, by omega, a2⟩
    rw [a3]; exact r2
theorem NB.cl {S : mS} {N : Nat} {b : Int32} (h : NB S N) : NB (clM S b) N := h
theorem Inv.sy : ∀ (f w : Nat) {S : mS} {t N : Nat}, Inv S t → NB S N → dc S.bs ≤ f → S.q.length + dc S.bs + 1 ≤ 40 → Inv (syM f w S).1 t ∧ (∃ N2, N2 ≤ N + f ∧ NB (syM f w S).1 N2) ∧ (syM f w S).1.q.length < 40 := by
  intro f
  induction f with
  | zero => intro w S t N h n hd hq; exact ⟨h, ⟨N, by omega, n⟩, by show S.q.length < 40; omega⟩
  | succ f ih =>
    intro w S t N h n hd hq
    unfold syM
    cases hf : S.bs.foldl dlM none with
    | none => exact ⟨h, ⟨N, by omega, n⟩, by show S.q.length < 40; omega⟩
    | some c =>
      simp only []
      have hm := (dl_mem _ _ _ hf).resolve_right (fun z => by cases z)
      have hdc := dc_cl hm.1 hm.2 h.bsnd
      have hbs : (clM (wbM S c) c.1).bs = clL S.bs c.1 := by show clL (wbM S c).bs c.1 = _; rw [wb_bs]
      have hq2 : (clM (wbM S c) c.1).q.length ≤ S.q.length + 1 := wb_q S c
      obtain ⟨N2, k1, k2, -⟩ := n.wb (c := c)
      obtain ⟨a1, ⟨N3, a2, a3⟩, a4⟩ := ih (w + 1) ((h.wb (h.bsok _ hm.1) (by omega)).cl (b := c.1)) (k2.cl (b := c.1)) (by rw [hbs]; omega) (by rw [hbs]; omega)
      exact ⟨a1, ⟨N3, by omega, a3⟩, a4⟩
theorem Inv.sync {S : mS} {t N : Nat} (h : Inv S t) (n : NB S N) (hq : S.q.length + S.bs.length + 1 ≤ 40) : Inv (addM (syM 10 0 S).1 2 (-1) 0) t ∧ ∃ N2, N2 ≤ N + 11 ∧ NB (addM (syM 10 0 S).1 2 (-1) 0) N2 := by
  have hd := dc_le S.bs
  have h10 := h.bs10
  obtain ⟨a1, ⟨N2, a2, a3⟩, a4⟩ := Inv.sy 10 0 h n (by omega) (by omega)
  exact ⟨a1.add a4 ⟨Or.inr (Or.inr rfl), fun z => absurd rfl z⟩, N2 + 1, by omega, a3.add⟩
theorem Inv.po {S : mS} {t n : Nat} (h : Inv S t) (hn : n < 5) : Inv (poM S (nI n)) t := by
  obtain ⟨i1, i2, i3, i4, i5, i6, i7, i8, i9, i10, i11, i12, i13⟩ := h
  exact ⟨i1, i2, i3, i4, i5, i6, i7, i8, i9, i10, i11, ⟨n, hn, rfl⟩, i13⟩
theorem NB.po {S : mS} {N : Nat} {w : Int32} (h : NB S N) : NB (poM S w) N := h
theorem Inv.cr {S : mS} {t : Nat} (h : Inv S t) : Inv (crM S) t := by
  obtain ⟨i1, i2, i3, i4, i5, i6, i7, i8, i9, i10, i11, i12, i13⟩ := h
  exact ⟨Nat.zero_le _, Nat.zero_le _, Nat.zero_le _, fun r z => (by cases z), fun r z => (by cases z), fun r z => (by cases z), fun r z => (by cases z), List.nodup_nil, List.nodup_nil, ⟨0, by decide, rfl⟩, Or.inr rfl, i12, i13⟩
theorem NB.cr {S : mS} {N : Nat} (h : NB S N) : NB (crM S) N := ⟨h.1, fun r z => (by cases z), fun r z => (by cases z)⟩
