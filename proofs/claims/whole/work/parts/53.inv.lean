/-! WHAT STAYS TRUE IN THE MODEL: the numbers, the bounds. -/
theorem NB.bg {S : mS} {N : Nat} (h : NB S N) : NB (bgM S) N := by
  unfold bgM
  cases hs : S.sv with
  | some r => exact h
  | none =>
    simp only []
    unfold begM
    cases (chs S.q S.tm S.hd S.up S.wy).1 with
    | none => exact h
    | some k =>
      simp only []
      cases hk : S.q[k]? with
      | none => exact h
      | some r =>
        obtain ⟨h1, h2, h3⟩ := h
        exact ⟨h1, fun x hx => h2 x (List.mem_of_mem_eraseIdx hx), fun x z => by cases z; exact h2 r (List.mem_of_getElem? hk)⟩
theorem NB.end {S : mS} {N : Nat} (h : NB S N) : NB (endM S) N := by
  unfold endM
  cases hs : S.sv with
  | none => exact h
  | some r => exact ⟨h.1, h.2.1, fun x z => by cases z⟩
theorem NB.next {S : mS} {N : Nat} (h : NB S N) : NB (nextM S) N := h.bg.end
theorem NB.dr : ∀ (f : Nat) {S : mS} {N : Nat}, NB S N → NB (drM f S) N := by
  intro f
  induction f with
  | zero => intro S N h; exact h
  | succ f ih =>
    intro S N h
    unfold drM
    split
    · exact h
    · exact ih h.next
theorem NB.pa : ∀ (f left : Nat) {S : mS} {N : Nat}, NB S N → NB (paM f left S) N := by
  intro f
  induction f with
  | zero => intro left S N h; exact h
  | succ f ih =>
    intro left S N h
    unfold paM
    split
    · exact h
    · split
      · exact h.bg
      · split
        · exact h.bg
        · exact ih _ h.bg.end
theorem Inv.le {S : mS} {t u : Nat} (h : Inv S t) (hu : t ≤ u) : Inv S u := by
  obtain ⟨i1, i2, i3, i4, i5, i6, i7, i8, i9, i10, i11, i12, n, hn, i13⟩ := h
  exact ⟨i1, i2, i3, i4, i5, i6, i7, i8, i9, i10, i11, i12, n, by omega, i13⟩
theorem bgM_bs (S : mS) : (bgM S).bs = S.bs := by
  unfold bgM
  cases S.sv with
  | some r => rfl
  | none =>
    simp only []
    unfold begM
    cases (chs S.q S.tm S.hd S.up S.wy).1 with
    | none => rfl
    | some k =>
      simp only []
      cases S.q[k]? <;> rfl
theorem endM_bs (S : mS) : (endM S).bs = S.bs := by
  unfold endM
  cases S.sv <;> rfl
theorem nextM_bs (S : mS) : (nextM S).bs = S.bs := (endM_bs _).trans (bgM_bs S)
theorem Inv.ld : ∀ (f : Nat) (w : Int32) {S : mS} {t N : Nat}, Inv S t → NB S N → Inv (ldM f w S).1 (t + 40 * f) ∧ NB (ldM f w S).1 N ∧ (ldM f w S).1.bs = S.bs := by
  intro f w
  induction f with
  | zero => intro S t N h n; exact ⟨h, n, rfl⟩
  | succ f ih =>
    intro S t N h n
    unfold ldM
    cases hs : (bgM S).sv with
    | none => exact ⟨h.le (by omega), n, rfl⟩
    | some r =>
      have hw : S.sv ≠ none ∨ S.q ≠ [] := by
        cases hz : S.sv with
        | some x => exact Or.inl (fun z => by cases z)
        | none =>
          refine Or.inr (fun z => ?_)
          rw [bgM_n hz z, hz] at hs; cases hs
      have h1 := (h.next hw).1
      simp only []
      split
      · exact ⟨h1.le (by omega), n.next, nextM_bs S⟩
      · obtain ⟨a, b, c⟩ := ih h1 n.next
        exact ⟨a.le (by omega), b, c.trans (nextM_bs S)⟩
theorem Inv.put {S : mS} {t : Nat} {b v d : Int32} (h : Inv S t) (hb : bOK b) (hl : (S.bs.eraseP (fun c => c.1 == b)).length < 10) : Inv (putM S b v d) t := by
  obtain ⟨i1, i2, i3, i4, i5, i6, i7, i8, i9, i10, i11, i12, i13⟩ := h
  refine ⟨?_, i2, i3, i4, i5, i6, fun c hc => ?_, ap_nd i8, i9, i10, i11, i12, i13⟩
  · show (S.bs.eraseP (fun c => c.1 == b) ++ [(b, v, d)]).length ≤ 10
    rw [List.length_append, List.length_singleton]; omega
  · rcases List.mem_append.mp hc with z | z
    · exact i7 c (List.mem_of_mem_eraseP z)
    · rw [List.mem_singleton.mp z]; exact hb
theorem ep_lt {bs : List mC} {b : Int32} {c : mC} (h : bs.find? (fun c => c.1 == b) = some c) (hl : bs.length ≤ 10) : (bs.eraseP (fun c => c.1 == b)).length < 10 := by
  have hm := List.mem_of_find?_eq_some h
  have hp := List.find?_some h
  have := List.length_eraseP_of_mem (p := fun c : mC => c.1 == b) hm hp
  have hpos := List.length_pos_of_mem hm
  omega
theorem NB.put {S : mS} {N : Nat} {b v d : Int32} (h : NB S N) : NB (putM S b v d) N := h
/-- save -/
theorem Inv.save {S : mS} {t N : Nat} {b v : Int32} (h : Inv S t) (n : NB S N) (hb : bOK b) (hq : S.q.length + 2 ≤ 40) : Inv (saveM S b v).1 t ∧ ∃ N2, N2 ≤ N + 1 ∧ NB (saveM S b v).1 N2 := by
  unfold saveM
  cases hf : bfM S b with
  | some c => exact ⟨h.put hb (ep_lt hf h.bs10), N, by omega, n⟩
  | none =>
    obtain ⟨r1, r2⟩ := h.room (by omega)
    obtain ⟨N2, k1, k2, -⟩ := n.room
    exact ⟨r1.put hb (Nat.lt_of_le_of_lt List.length_eraseP_le r2), N2, k1, k2⟩
