/-! THE REFERENCE: what its choice and its queue mean. -/
theorem i32_n0 (x : Int32) : 0 - x = -x := by rw [Int32.zero_sub]
theorem i32_ns (x y : Int32) : -(x - y) = y - x := by rw [Int32.neg_sub]
theorem dsF_side {wy hd up : Int32} (h : wy = 1 ∨ wy = 2 ∨ wy = 3 ∨ wy = 4) : dsF wy hd up = fA (sideP wy up) hd := by
  funext b
  show dsR wy (b / 8 - hd) up = tA (sideP wy up) (b / 8) hd
  generalize b / 8 = t
  rcases h with rfl | rfl | rfl | rfl
  · show (if 0 ≤ t - hd then t - hd else -(t - hd)) = (if 0 ≤ t - hd then t - hd else 0 - (t - hd))
    rw [i32_n0]
  · by_cases z : up = 0
    · subst z
      show -(t - hd) = hd - t
      exact i32_ns _ _
    · have e : sideP 2 up = 1 := by unfold sideP; rw [if_neg (by decide), if_pos rfl, if_neg z]
      rw [e]
      show (if up = 0 then -(t - hd) else t - hd) = t - hd
      rw [if_neg z]
  · rfl
  · rfl
/-- the lowest track, as the disk finds it -/
theorem low_near {q : List mQ} {g : Nat → Int32} {hd : Int32} {r0 : mQ} (h0 : q[0]? = some r0) (h2 : ¬ r0.2.1 = 2) (hok : ∀ r ∈ q, qOK r) (hg : ∀ k r, q[k]? = some r → g k = r.2.2.1) : ∀ n, 1 ≤ n → n ≤ q.length → nearN q (fA 3 hd) n = some (lowN q g n) := by
  have hf : ∀ k r, q[k]? = some r → rdy q k = true → ¬ fA 3 hd r.2.2.1 < 0 := by
    intro k r hk hr
    have hb : r.2.1 ≠ 2 := by
      intro z
      by_cases k0 : k = 0
      · subst k0; rw [h0] at hk; cases hk; exact h2 z
      · unfold rdy at hr; rw [hk] at hr; simp [z, k0] at hr
    obtain ⟨t, ht, e⟩ := ((hok r (List.mem_of_getElem? hk)).2 hb).tr
    show ¬ r.2.2.1 / 8 < 0
    rw [e]; exact nI_pos (by omega)
  intro n
  induction n with
  | zero => intro h; omega
  | succ n ih =>
    intro _ hn
    obtain ⟨r, hr⟩ := mp_get (xs := q) (i := n) (by omega)
    by_cases n0 : n = 0
    · subst n0
      have hr0 : rdy q 0 = true := by unfold rdy; rw [hr]; simp
      rw [nearN_2 hr ⟨hr0, hf 0 r hr hr0⟩ rfl]
      show some 0 = some (if _ then 0 else 0)
      split <;> rfl
    · have ih := ih (by omega) (by omega)
      show _ = some (if rdy q n = true ∧ g n / 8 < g (lowN q g n) / 8 then n else lowN q g n)
      by_cases hr0 : rdy q n = true
      · have hlt := nearN_lt q _ n _ ih
        obtain ⟨s, hs⟩ := mp_get (xs := q) hlt.2
        rw [nearN_3 hr ⟨hr0, hf n r hr hr0⟩ ih hs, hg n r hr, hg _ s hs]
        show (if r.2.2.1 / 8 < s.2.2.1 / 8 then _ else _) = _
        by_cases z : r.2.2.1 / 8 < s.2.2.1 / 8
        · rw [if_pos z, if_pos ⟨hr0, z⟩]
        · rw [if_neg z, if_neg (fun w => z w.2)]
      · rw [nearN_1 hr (fun w => hr0 w.1), if_neg (fun w => hr0 w.1)]; exact ih
/-- a request in the arrays -/
def rA (ar : Nat → Nat → Int32) (k : Nat) (r : mQ) : Prop := ar 16 k = r.1 ∧ ar 17 k = r.2.1 ∧ ar 18 k = r.2.2.1 ∧ ar 20 k = r.2.2.2.1 ∧ ar 19 k = r.2.2.2.2
theorem cpA_at {ar : Nat → Nat → Int32} {i j : Nat} {r : mQ} (h : rA ar i r) : rA (cpA ar i j) j r := by
  obtain ⟨h1, h2, h3, h4, h5⟩ := h
  refine ⟨?_, ?_, ?_, ?_, ?_⟩ <;> simp [cpA, va_up, upd, h1, h2, h3, h4, h5]
theorem cpA_ne {ar : Nat → Nat → Int32} {i j k : Nat} {r : mQ} (hk : k ≠ j) (h : rA ar k r) : rA (cpA ar i j) k r := by
  obtain ⟨h1, h2, h3, h4, h5⟩ := h
  refine ⟨?_, ?_, ?_, ?_, ?_⟩ <;> simp [cpA, va_up, upd, hk, h1, h2, h3, h4, h5]
theorem cpA_o {ar : Nat → Nat → Int32} {i j k : Nat} (hk : k < 16 ∨ 20 < k) : cpA ar i j k = ar k := by
  have : k ≠ 16 ∧ k ≠ 17 ∧ k ≠ 18 ∧ k ≠ 19 ∧ k ≠ 20 := by omega
  simp [cpA, va_up, this]
/-- a row closes up behind place k: so far as i -/
def shS {α : Type} (P : (Nat → Nat → Int32) → Nat → α → Prop) (ar : Nat → Nat → Int32) (q : List α) (k i : Nat) : Prop := ∀ j r, q[j]? = some r → (j < k → P ar j r) ∧ (k < j → j ≤ i → P ar (j - 1) r) ∧ (i < j → P ar j r)
theorem shS_0 {α : Type} {P : (Nat → Nat → Int32) → Nat → α → Prop} {ar : Nat → Nat → Int32} {q : List α} {k : Nat} (h : ∀ j r, q[j]? = some r → P ar j r) : shS P ar q k k := fun j r hj => ⟨fun _ => h j r hj, fun a b => absurd a (by omega), fun _ => h j r hj⟩
theorem shS_s {α : Type} {P : (Nat → Nat → Int32) → Nat → α → Prop} {ar ar2 : Nat → Nat → Int32} {q : List α} {k i : Nat} (h : shS P ar q k i) (hk : k ≤ i) (h1 : ∀ r, P ar (i + 1) r → P ar2 i r) (h2 : ∀ j r, j ≠ i → P ar j r → P ar2 j r) : shS P ar2 q k (i + 1) := by
  intro j r hj
  obtain ⟨a, b, c⟩ := h j r hj
  refine ⟨fun z => h2 _ _ (by omega) (a z), fun z w => ?_, fun z => h2 _ _ (by omega) (c (by omega))⟩
  by_cases e : j = i + 1
  · subst e
    exact h1 _ (c (by omega))
  · exact h2 _ _ (by omega) (b z (by omega))
theorem shS_e {α : Type} {P : (Nat → Nat → Int32) → Nat → α → Prop} {ar : Nat → Nat → Int32} {q : List α} {k i : Nat} (h : shS P ar q k i) (hi : i + 1 = q.length) : ∀ j r, (q.eraseIdx k)[j]? = some r → P ar j r := by
  intro j r hj
  rw [List.getElem?_eraseIdx] at hj
  split at hj
  · exact (h j r hj).1 (by omega)
  · have := (List.getElem?_eq_some_iff.mp hj).1
    exact (h (j + 1) r hj).2.1 (by omega) (by omega)
/-- the last request of block b behind the last barrier -/
def laN (q : List mQ) (b : Int32) : Nat → Option Nat
  | 0 => none
  | n + 1 => match q[n]? with
    | none => none
    | some r => if r.2.1 = 2 then none else if r.2.2.1 = b then some n else laN q b n
theorem laN_lt (q : List mQ) (b : Int32) : ∀ n j, laN q b n = some j → j < n := by
  intro n
  induction n with
  | zero => intro j h; cases h
  | succ n ih =>
    intro j h
    simp only [laN] at h
    split at h
    · cases h
    · split at h
      · cases h
      · split at h
        · cases h; omega
        · have := ih j h; omega
theorem laN_ap (q : List mQ) (r : mQ) (b : Int32) : ∀ n, n ≤ q.length → laN (q ++ [r]) b n = laN q b n := by
  intro n
  induction n with
  | zero => intro _; rfl
  | succ n ih =>
    intro h
    simp only [laN]
    rw [List.getElem?_append_left (by omega), ih (by omega)]
def stV (q : List mQ) (k : Nat) (v : Int32) : List mQ := match q[k]? with
  | none => q
  | some r => q.set k (r.1, r.2.1, r.2.2.1, r.2.2.2.1, v)
theorem wbL_la (b v : Int32) (q : List mQ) : wbL b v q.reverse = match laN q b q.length with
    | none => none
    | some k => if (q[k]?.map (·.2.1)) = some 1 then some (stV q k v).reverse else none := by
  suffices H : ∀ p : List mQ, wbL b v p = match laN p.reverse b p.reverse.length with
    | none => none
    | some k => if (p.reverse[k]?.map (·.2.1)) = some 1 then some (stV p.reverse k v).reverse else none by
    have := H q.reverse
    rw [List.reverse_reverse] at this
    exact this
  intro p
  induction p with
  | nil => rfl
  | cons r t ih =>
    have e : (r :: t).reverse = t.reverse ++ [r] := List.reverse_cons
    have el : (t.reverse ++ [r]).length = t.reverse.length + 1 := by simp
    have eg : (t.reverse ++ [r])[t.reverse.length]? = some r := by simp
    rw [e, el]
    show (if r.2.1 = 2 then none else if r.2.2.1 = b then (if r.2.1 = 1 then some ((r.1, r.2.1, r.2.2.1, r.2.2.2.1, v) :: t) else none) else (wbL b v t).map (r :: ·)) = _
    have ea : laN (t.reverse ++ [r]) b (t.reverse.length + 1) = if r.2.1 = 2 then none else if r.2.2.1 = b then some t.reverse.length else laN t.reverse b t.reverse.length := by
      simp only [laN]
      rw [eg]
      simp only []
      rw [laN_ap _ _ _ _ (Nat.le_refl _)]
    rw [ea]
    by_cases c1 : r.2.1 = 2
    · rw [if_pos c1, if_pos c1]
    · rw [if_neg c1, if_neg c1]
      by_cases c2 : r.2.2.1 = b
      · rw [if_pos c2, if_pos c2]
        simp only []
        rw [eg]
        by_cases c3 : r.2.1 = 1
        · rw [if_pos c3, if_pos (by show some r.2.1 = _; rw [c3])]
          unfold stV
          rw [eg]
          simp only []
          rw [List.set_append_right _ _ (Nat.le_refl _)]
          simp
        · rw [if_neg c3]
          show none = if some r.2.1 = some 1 then some (stV (t.reverse ++ [r]) t.reverse.length v).reverse else none
          rw [if_neg (fun z => c3 (Option.some.inj z))]
      · rw [if_neg c2, if_neg c2, ih]
        cases hl : laN t.reverse b t.reverse.length with
        | none => rfl
        | some k =>
          have hk := laN_lt _ _ _ _ hl
          simp only []
          rw [List.getElem?_append_left hk]
          split
          · unfold stV
            rw [List.getElem?_append_left hk]
            obtain ⟨s, hs⟩ := mp_get hk
            rw [hs]
            simp only []
            rw [List.set_append_left _ _ hk]
            simp
          · rfl
/-- a copy, a buffer in the arrays -/
def rC (ar : Nat → Nat → Int32) (k : Nat) (c : mC) : Prop := ar 22 k = c.1 ∧ ar 23 k = c.2.1
def rB (ar : Nat → Nat → Int32) (k : Nat) (c : mC) : Prop := ar 11 k = c.1 ∧ ar 12 k = c.2.1 ∧ ar 13 k = c.2.2
def caA (ar : Nat → Nat → Int32) (i j : Nat) : Nat → Nat → Int32 := va_up (va_up ar 22 (upd (ar 22) j (ar 22 i))) 23 (upd (ar 23) j (ar 23 i))
def bfA (ar : Nat → Nat → Int32) (i j : Nat) : Nat → Nat → Int32 := va_up (va_up (va_up ar 11 (upd (ar 11) j (ar 11 i))) 12 (upd (ar 12) j (ar 12 i))) 13 (upd (ar 13) j (ar 13 i))
theorem caA_at {ar : Nat → Nat → Int32} {i j : Nat} {r : mC} (h : rC ar i r) : rC (caA ar i j) j r := by
  obtain ⟨h1, h2⟩ := h
  refine ⟨?_, ?_⟩ <;> simp [caA, va_up, upd, h1, h2]
theorem caA_ne {ar : Nat → Nat → Int32} {i j k : Nat} {r : mC} (hk : k ≠ j) (h : rC ar k r) : rC (caA ar i j) k r := by
  obtain ⟨h1, h2⟩ := h
  refine ⟨?_, ?_⟩ <;> simp [caA, va_up, upd, hk, h1, h2]
theorem bfA_at {ar : Nat → Nat → Int32} {i j : Nat} {r : mC} (h : rB ar i r) : rB (bfA ar i j) j r := by
  obtain ⟨h1, h2, h3⟩ := h
  refine ⟨?_, ?_, ?_⟩ <;> simp [bfA, va_up, upd, h1, h2, h3]
theorem bfA_ne {ar : Nat → Nat → Int32} {i j k : Nat} {r : mC} (hk : k ≠ j) (h : rB ar k r) : rB (bfA ar i j) k r := by
  obtain ⟨h1, h2, h3⟩ := h
  refine ⟨?_, ?_, ?_⟩ <;> simp [bfA, va_up, upd, hk, h1, h2, h3]
theorem caA_o {ar : Nat → Nat → Int32} {i j k : Nat} (hk : k < 22) : caA ar i j k = ar k := by
  have : k ≠ 22 ∧ k ≠ 23 := by omega
  simp [caA, va_up, this]
theorem bfA_o {ar : Nat → Nat → Int32} {i j k : Nat} (hk : k < 11 ∨ 13 < k) : bfA ar i j k = ar k := by
  have : k ≠ 11 ∧ k ≠ 12 ∧ k ≠ 13 := by omega
  simp [bfA, va_up, this]
def fl (b : Int32) (xs : List mC) : List mC := xs.filter (fun c => !(c.1 == b))
theorem ep_fl {b : Int32} : ∀ {xs : List mC}, (xs.map (·.1)).Nodup → xs.eraseP (fun c => c.1 == b) = fl b xs := by
  intro xs
  induction xs with
  | nil => intro _; rfl
  | cons c t ih =>
    intro h
    have h1 := List.nodup_cons.mp (show (c.1 :: t.map (·.1)).Nodup from h)
    by_cases z : c.1 = b
    · rw [List.eraseP_cons_of_pos (by simp [z])]
      unfold fl
      rw [List.filter_cons_of_neg (by simp [z])]
      refine (List.filter_eq_self.mpr (fun d hd => ?_)).symm
      have : d.1 ≠ b := fun w => h1.1 (List.mem_map.mpr ⟨d, hd, w.trans z.symm⟩)
      simp [this]
    · rw [List.eraseP_cons_of_neg (by simp [z])]
      unfold fl
      rw [List.filter_cons_of_pos (by simp [z]), ih h1.2]
      rfl
theorem ep_ix {b : Int32} : ∀ {xs : List mC} {j : Nat} {c : mC}, (xs.map (·.1)).Nodup → xs[j]? = some c → c.1 = b → xs.eraseP (fun c => c.1 == b) = xs.eraseIdx j := by
  intro xs
  induction xs with
  | nil => intro j c _ h; simp at h
  | cons d t ih =>
    intro j c h hj hc
    have h1 := List.nodup_cons.mp (show (d.1 :: t.map (·.1)).Nodup from h)
    cases j with
    | zero =>
      have : d = c := by simpa using hj
      subst this
      rw [List.eraseP_cons_of_pos (by simp [hc])]
      rfl
    | succ j =>
      have hj : t[j]? = some c := by simpa using hj
      have : d.1 ≠ b := fun w => h1.1 (List.mem_map.mpr ⟨c, List.mem_of_getElem? hj, hc.trans w.symm⟩)
      rw [List.eraseP_cons_of_neg (by simp [this]), List.eraseIdx_cons_succ, ih h1.2 hj hc]
theorem ep_id {b : Int32} {xs : List mC} (h : xs.find? (fun c => c.1 == b) = none) : xs.eraseP (fun c => c.1 == b) = xs := List.eraseP_of_forall_not (fun a ha => List.find?_eq_none.mp h a ha)
/-- the cache drops block b: so far as k -/
def cS (ar : Nat → Nat → Int32) (ca : List mC) (b : Int32) (k : Nat) : Prop := (∀ j c, (fl b (ca.take k))[j]? = some c → rC ar j c) ∧ ∀ j c, k ≤ j → ca[j]? = some c → rC ar j c
theorem fl_tk {b : Int32} {ca : List mC} {k : Nat} {c : mC} (h : ca[k]? = some c) : fl b (ca.take (k + 1)) = if c.1 = b then fl b (ca.take k) else fl b (ca.take k) ++ [c] := by
  unfold fl
  rw [List.take_add_one, h, List.filter_append]
  by_cases z : c.1 = b
  · rw [if_pos z]; simp [z]
  · rw [if_neg z]; simp [z]
theorem fl_le {b : Int32} {ca : List mC} {k : Nat} : (fl b (ca.take k)).length ≤ k := Nat.le_trans (List.length_filter_le _ _) (by rw [List.length_take]; exact Nat.min_le_left _ _)
theorem cS_s {ar : Nat → Nat → Int32} {ca : List mC} {b : Int32} {k : Nat} {c : mC} (h : cS ar ca b k) (hc : ca[k]? = some c) (hb : ¬ c.1 = b) : cS (caA ar k (fl b (ca.take k)).length) ca b (k + 1) := by
  refine ⟨fun j d hj => ?_, fun j d hk hj => caA_ne (by have := @fl_le b ca k; omega) (h.2 j d (by omega) hj)⟩
  rw [fl_tk hc, if_neg hb] at hj
  by_cases z : j < (fl b (ca.take k)).length
  · rw [List.getElem?_append_left z] at hj
    exact caA_ne (by omega) (h.1 j d hj)
  · have hl := (List.getElem?_eq_some_iff.mp hj).1
    rw [List.length_append] at hl
    have e : j = (fl b (ca.take k)).length := by simp at hl; omega
    subst e
    have : c = d := by simpa using hj
    subst this
    exact caA_at (h.2 k c (Nat.le_refl _) hc)
theorem cS_n {ar : Nat → Nat → Int32} {ca : List mC} {b : Int32} {k : Nat} {c : mC} (h : cS ar ca b k) (hc : ca[k]? = some c) (hb : c.1 = b) : cS ar ca b (k + 1) := by
  refine ⟨fun j d hj => ?_, fun j d hk hj => h.2 j d (by omega) hj⟩
  rw [fl_tk hc, if_pos hb] at hj
  exact h.1 j d hj
def cpu (ar : Nat → Nat → Int32) (k : Nat) (b v : Int32) : Nat → Nat → Int32 := va_up (va_up ar 22 (upd (ar 22) k b)) 23 (upd (ar 23) k v)
theorem cpu_o {ar : Nat → Nat → Int32} {i k : Nat} {b v : Int32} (hk : k < 22) : cpu ar i b v k = ar k := by
  have : k ≠ 22 ∧ k ≠ 23 := by omega
  simp [cpu, va_up, this]
theorem cS_e {ar : Nat → Nat → Int32} {ca : List mC} {b v w : Int32} (h : cS ar ca b ca.length) : cL (cpu ar (fl b ca).length b v) (fl b ca ++ [(b, v, w)]) := by
  have h1 := h.1
  rw [List.take_length] at h1
  intro j d hj
  by_cases z : j < (fl b ca).length
  · rw [List.getElem?_append_left z] at hj
    obtain ⟨g1, g2⟩ := h1 j d hj
    have : j ≠ (fl b ca).length := by omega
    exact ⟨by simp [cpu, va_up, upd, this, g1], by simp [cpu, va_up, upd, this, g2]⟩
  · have hl := (List.getElem?_eq_some_iff.mp hj).1
    rw [List.length_append] at hl
    have e : j = (fl b ca).length := by simp at hl; omega
    subst e
    have : (b, v, w) = d := by simpa using hj
    subst this
    exact ⟨by simp [cpu, va_up, upd], by simp [cpu, va_up, upd]⟩
theorem upd_id {f : Nat → Int32} {k : Nat} {v : Int32} (h : f k = v) : upd f k v = f := by
  funext j
  unfold upd
  split
  · rename_i e; rw [e, h]
  · rfl
theorem fo_tk {mf : Nat → Int32} {ca : List mC} {k : Nat} {c : mC} (h : ca[k]? = some c) : (ca.take (k + 1)).foldl updM mf = updM ((ca.take k).foldl updM mf) c := by
  rw [List.take_add_one, h, List.foldl_append]; rfl
