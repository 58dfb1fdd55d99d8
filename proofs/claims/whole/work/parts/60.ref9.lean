/-! THE REFERENCE: what ties it to the model. -/
def UN (S : mS) : Prop := ((S.sv.toList ++ S.q).map (·.1)).Nodup ∧ ∀ r ∈ S.sv.toList ++ S.q, r.2.1 ≠ 1 → r.2.2.2.2 = 0
def bZ (bs : List mC) : Prop := ∀ c ∈ bs, c.2.2 = 0 ∨ c.2.2 = 1
/-- the reference holds the model's state -/
def RM (sc : Nat → Int32) (ar : Nat → Nat → Int32) (S : mS) : Prop := (sc 1 = S.tm ∧ sc 2 = S.il ∧ sc 3 = S.hi ∧ sc 4 = S.mi ∧ sc 5 = S.ev ∧ sc 6 = S.ab ∧ sc 7 = S.sd ∧ sc 8 = S.wy) ∧ (∀ b, b < 256 → ar 9 b = S.mf b) ∧ (sc 10 = nI S.bs.length ∧ bL ar S.bs ∧ bZ S.bs) ∧ sc 14 = S.nn ∧ (sc 15 = nI S.q.length ∧ qL ar S.q) ∧ (sc 21 = nI S.ca.length ∧ cL ar S.ca) ∧ (sc 24 = S.hd ∧ sc 25 = S.up) ∧ (S.sv = none → sc 26 = 0) ∧ (∀ r, S.sv = some r → sc 26 = 1 ∧ rA ar 40 r ∧ sc 27 = S.tm + S.ul) ∧ UN S
theorem UN.sub {S T : mS} (h : UN S) (hs : (T.sv.toList ++ T.q).Sublist (S.sv.toList ++ S.q)) : UN T := ⟨h.1.sublist (hs.map _), fun r hr => h.2 r (hs.subset hr)⟩
theorem er_perm {α : Type} : ∀ {q : List α} {k : Nat} {r : α}, q[k]? = some r → (r :: q.eraseIdx k).Perm q := by
  intro q
  induction q with
  | nil => intro k r h; simp at h
  | cons a t ih =>
    intro k r h
    cases k with
    | zero =>
      have : a = r := by simpa using h
      subst this
      exact List.Perm.refl _
    | succ k =>
      have h : t[k]? = some r := by simpa using h
      rw [List.eraseIdx_cons_succ]
      exact (List.Perm.swap a r _).trans ((ih h).cons a)
theorem UN.beg {S : mS} (h : UN S) (hs : S.sv = none) : UN (begM S) := by
  unfold begM
  split
  · exact h
  · rename_i k hk
    split
    · exact h
    · rename_i r hr
      obtain ⟨h1, h2⟩ := h
      rw [hs] at h1 h2
      have hp : (r :: S.q.eraseIdx k).Perm S.q := er_perm hr
      exact ⟨(hp.map (·.1)).nodup_iff.mpr h1, fun x hx => h2 x (hp.mem_iff.mp hx)⟩
theorem UN.end {S : mS} (h : UN S) : UN (endM S) := by
  unfold endM
  split
  · exact h
  · exact h.sub (List.sublist_append_right _ _)
theorem UN.add {S : mS} {N : Nat} {k b v : Int32} (h : UN S) (hN : NB S N) (hN2 : N < 2 ^ 31) (hv : k ≠ 1 → v = 0) : UN (addM S k b v) := by
  obtain ⟨h1, h2⟩ := h
  have e : (addM S k b v).sv.toList ++ (addM S k b v).q = (S.sv.toList ++ S.q) ++ [(S.nn, k, b, S.tm, v)] := (List.append_assoc _ _ _).symm
  constructor
  · rw [e, List.map_append]
    refine List.nodup_append.mpr ⟨h1, by simp, fun x hx y hy z => ?_⟩
    simp at hy
    subst hy
    obtain ⟨r, hr, e2⟩ := List.mem_map.mp hx
    have : ∃ j, j < N ∧ r.1 = nI j := by
      rcases List.mem_append.mp hr with w | w
      · exact hN.2.2 r (by simpa using w)
      · exact hN.2.1 r w
    obtain ⟨j, hj, ej⟩ := this
    have e3 : nI j = nI N := by rw [← ej, ← hN.1, ← z]; exact e2
    have := (nI_eq (by omega) hN2).mp e3
    omega
  · intro r hr
    rw [e] at hr
    rcases List.mem_append.mp hr with w | w
    · exact h2 r w
    · simp at w; subst w; exact hv
theorem stV_fst (q : List mQ) (k : Nat) (v : Int32) : (stV q k v).map (·.1) = q.map (·.1) := by
  unfold stV
  split
  · rfl
  · rename_i r hr
    rw [List.map_set]
    refine List.ext_getElem? (fun j => ?_)
    rw [List.getElem?_set]
    split
    · rename_i e
      subst e
      rw [List.getElem?_map, hr]
      have := (List.getElem?_eq_some_iff.mp hr).1
      simp [this]
    · rfl
theorem stV_len (q : List mQ) (k : Nat) (v : Int32) : (stV q k v).length = q.length := by
  unfold stV
  split
  · rfl
  · rw [List.length_set]
theorem stV_mem {q : List mQ} {k : Nat} {v : Int32} {r : mQ} (h : q[k]?.map (·.2.1) = some 1) (hr : r ∈ stV q k v) : r ∈ q ∨ r.2.1 = 1 := by
  unfold stV at hr
  split at hr
  · exact Or.inl hr
  · rename_i s hs
    rw [hs] at h
    rcases List.mem_or_eq_of_mem_set hr with w | w
    · exact Or.inl w
    · subst w; exact Or.inr (Option.some.inj h)
theorem wbM_1 {S : mS} {b v : Int32} {k : Nat} (h : laN S.q b S.q.length = some k) (hk : S.q[k]?.map (·.2.1) = some 1) (d : Int32) : wbM S (b, v, d) = (mkS (stV S.q k v) S.mf S.ca S.sv S.ul S.tm S.hd S.up S.wy S.sd S.il S.bs S.nn S.hi S.mi S.ev (S.ab + 1)) := by
  unfold wbM
  simp only []
  rw [wbL_la, h]
  simp only []
  rw [if_pos hk]
  simp only [List.reverse_reverse]
theorem wbM_2 {S : mS} {b v : Int32} (h : ∀ k, laN S.q b S.q.length = some k → ¬ S.q[k]?.map (·.2.1) = some 1) (d : Int32) : wbM S (b, v, d) = addM S 1 b v := by
  unfold wbM
  simp only []
  rw [wbL_la]
  cases hl : laN S.q b S.q.length with
  | none => rfl
  | some k =>
    simp only []
    rw [if_neg (h k hl)]
theorem UN.stv {S : mS} {v : Int32} {k : Nat} {ab : Int32} (h : UN S) (hk : S.q[k]?.map (·.2.1) = some 1) : UN (mkS (stV S.q k v) S.mf S.ca S.sv S.ul S.tm S.hd S.up S.wy S.sd S.il S.bs S.nn S.hi S.mi S.ev ab) := by
  obtain ⟨h1, h2⟩ := h
  constructor
  · show ((S.sv.toList ++ stV S.q k v).map (·.1)).Nodup
    rw [List.map_append, stV_fst, ← List.map_append]; exact h1
  · intro r hr
    rcases List.mem_append.mp (show r ∈ S.sv.toList ++ stV S.q k v from hr) with w | w
    · exact h2 r (List.mem_append.mpr (Or.inl w))
    · rcases stV_mem hk w with w | w
      · exact h2 r (List.mem_append.mpr (Or.inr w))
      · exact fun z => absurd w z
def askM (S : mS) (k b v : Int32) : mS := if k = 1 then wbM S (b, v, 0) else addM S k b v
theorem qL_stV {ar : Nat → Nat → Int32} {q : List mQ} {k : Nat} {v : Int32} (h : qL ar q) : qL (va_up ar 19 (upd (ar 19) k v)) (stV q k v) := by
  intro j r hj
  unfold stV at hj
  split at hj
  · rename_i hn
    have : j ≠ k := fun z => by subst z; rw [hn] at hj; cases hj
    obtain ⟨h1, h2, h3, h4, h5⟩ := h j r hj
    exact ⟨by simp [va_up, h1], by simp [va_up, h2], by simp [va_up, h3], by simp [va_up, h4], by simp [va_up, upd, this, h5]⟩
  · rename_i s hs
    rw [List.getElem?_set] at hj
    split at hj
    · rename_i e
      subst e
      split at hj
      · cases hj
        obtain ⟨h1, h2, h3, h4, h5⟩ := h k s hs
        exact ⟨by simp [va_up, h1], by simp [va_up, h2], by simp [va_up, h3], by simp [va_up, h4], by simp [va_up, upd]⟩
      · cases hj
    · rename_i e
      obtain ⟨h1, h2, h3, h4, h5⟩ := h j r hj
      have : j ≠ k := fun z => e z.symm
      exact ⟨by simp [va_up, h1], by simp [va_up, h2], by simp [va_up, h3], by simp [va_up, h4], by simp [va_up, upd, this, h5]⟩
/-- a request is laid at place j -/
def lyA (ar : Nat → Nat → Int32) (j : Nat) (r : mQ) : Nat → Nat → Int32 := va_up (va_up (va_up (va_up (va_up ar 16 (upd (ar 16) j r.1)) 17 (upd (ar 17) j r.2.1)) 18 (upd (ar 18) j r.2.2.1)) 19 (upd (ar 19) j r.2.2.2.2)) 20 (upd (ar 20) j r.2.2.2.1)
theorem lyA_at {ar : Nat → Nat → Int32} {j : Nat} {r : mQ} : rA (lyA ar j r) j r := by
  refine ⟨?_, ?_, ?_, ?_, ?_⟩ <;> simp [lyA, va_up, upd]
theorem lyA_ne {ar : Nat → Nat → Int32} {j k : Nat} {r s : mQ} (hk : k ≠ j) (h : rA ar k s) : rA (lyA ar j r) k s := by
  obtain ⟨h1, h2, h3, h4, h5⟩ := h
  refine ⟨?_, ?_, ?_, ?_, ?_⟩ <;> simp [lyA, va_up, upd, hk, h1, h2, h3, h4, h5]
theorem lyA_o {ar : Nat → Nat → Int32} {j k : Nat} {r : mQ} (hk : k < 16 ∨ 20 < k) : lyA ar j r k = ar k := by
  have : k ≠ 16 ∧ k ≠ 17 ∧ k ≠ 18 ∧ k ≠ 19 ∧ k ≠ 20 := by omega
  simp [lyA, va_up, this]
theorem qL_ly {ar : Nat → Nat → Int32} {q : List mQ} {r : mQ} (h : qL ar q) : qL (lyA ar q.length r) (q ++ [r]) := by
  intro j s hj
  by_cases z : j < q.length
  · rw [List.getElem?_append_left z] at hj
    exact lyA_ne (by omega) (h j s hj)
  · have hl := (List.getElem?_eq_some_iff.mp hj).1
    rw [List.length_append] at hl
    have e : j = q.length := by simp at hl; omega
    subst e
    have : r = s := by simpa using hj
    subst this
    exact lyA_at
/-- the newest write of block b in the queue, else v -/
def lnV (q : List mQ) (b v : Int32) : Nat → Int32
  | 0 => v
  | n + 1 => match q[n]? with
    | none => lnV q b v n
    | some r => if r.2.1 = 1 ∧ r.2.2.1 = b then r.2.2.2.2 else lnV q b v n
theorem lnV_f (q : List mQ) (b v : Int32) : ∀ n, n ≤ q.length → lnV q b v n = match (q.take n).reverse.find? (fun c => c.2.1 == 1 && c.2.2.1 == b) with
    | some r => r.2.2.2.2
    | none => v := by
  intro n
  induction n with
  | zero => intro _; rfl
  | succ n ih =>
    intro h
    obtain ⟨r, hr⟩ := mp_get (xs := q) (i := n) (by omega)
    rw [tk_rev hr]
    simp only [lnV]
    rw [hr]
    simp only []
    by_cases z : r.2.1 = 1 ∧ r.2.2.1 = b
    · rw [if_pos z, List.find?_cons_of_pos (by simp [z])]
    · rw [if_neg z, List.find?_cons_of_neg (by simpa using z), ih (by omega)]
theorem newM_ln (S : mS) (b : Int32) : newM S b = match bfM S b with
    | some c => c.2.1
    | none => lnV S.q b (vasM S b) S.q.length := by
  unfold newM
  cases bfM S b with
  | some c => rfl
  | none =>
    simp only []
    rw [lnV_f _ _ _ _ (Nat.le_refl _), List.take_length]
    cases S.q.reverse.find? (fun c => c.2.1 == 1 && c.2.2.1 == b) <;> rfl
/-- the last request of number n -/
def lqN (q : List mQ) (n v : Int32) : Nat → Int32
  | 0 => v
  | k + 1 => match q[k]? with
    | none => lqN q n v k
    | some r => if r.1 = n then nI k else lqN q n v k
theorem lqN_none {q : List mQ} {n v : Int32} : ∀ k, (∀ r ∈ q, ¬ r.1 = n) → lqN q n v k = v := by
  intro k
  induction k with
  | zero => intro _; rfl
  | succ k ih =>
    intro h
    simp only [lqN]
    cases hr : q[k]? with
    | none => exact ih h
    | some r => simp only []; rw [if_neg (h r (List.mem_of_getElem? hr))]; exact ih h
theorem nd_q {xs : List mQ} (hn : (xs.map (·.1)).Nodup) {i j : Nat} {c d : mQ} (hi : xs[i]? = some c) (hj : xs[j]? = some d) (e : c.1 = d.1) : i = j := by
  have h1 : (xs.map (·.1))[i]? = some c.1 := by rw [List.getElem?_map, hi]; rfl
  have h2 : (xs.map (·.1))[j]? = some c.1 := by rw [List.getElem?_map, hj, e]; rfl
  exact (List.getElem?_inj (List.getElem?_eq_some_iff.mp h1).1 hn).mp (h1.trans h2.symm)
theorem lqN_some {q : List mQ} {n v : Int32} {j : Nat} {r : mQ} (hn : (q.map (·.1)).Nodup) (hj : q[j]? = some r) (hr : r.1 = n) : ∀ k, j < k → lqN q n v k = nI j := by
  intro k
  induction k with
  | zero => intro h; omega
  | succ k ih =>
    intro h
    simp only [lqN]
    cases hk : q[k]? with
    | none =>
      refine ih ?_
      have : j ≠ k := fun z => by subst z; rw [hk] at hj; cases hj
      omega
    | some s =>
      simp only []
      by_cases z : s.1 = n
      · rw [if_pos z, nd_q hn hk hj (z.trans hr.symm)]
      · rw [if_neg z]
        have : j ≠ k := fun w => by subst w; rw [hk] at hj; cases hj; exact z hr
        exact ih (by omega)
/-- where the reference finds the request that the model finds -/
theorem lvM_lq {S : mS} {n : Int32} (h : UN S) : (lvM S n = none ∧ lqN S.q n (match S.sv with | some r => if r.1 = n then 40 else -1 | none => -1) S.q.length = -1) ∨ (∃ r, lvM S n = some r ∧ S.sv = some r ∧ lqN S.q n (match S.sv with | some r => if r.1 = n then 40 else -1 | none => -1) S.q.length = nI 40) ∨ ∃ j r, lvM S n = some r ∧ S.q[j]? = some r ∧ lqN S.q n (match S.sv with | some r => if r.1 = n then 40 else -1 | none => -1) S.q.length = nI j := by
  obtain ⟨h1, -⟩ := h
  rw [List.map_append] at h1
  obtain ⟨-, h2, h3⟩ := List.nodup_append.mp h1
  unfold lvM
  have key : ∀ v : Int32, (S.q.find? (fun c => c.1 == n) = none ∧ lqN S.q n v S.q.length = v) ∨ ∃ j r, S.q.find? (fun c => c.1 == n) = some r ∧ S.q[j]? = some r ∧ r.1 = n ∧ lqN S.q n v S.q.length = nI j := by
    intro v
    cases hf : S.q.find? (fun c => c.1 == n) with
    | none => exact Or.inl ⟨rfl, lqN_none _ (fun r hr z => List.find?_eq_none.mp hf r hr (beq_iff_eq.mpr z))⟩
    | some r =>
      obtain ⟨j, hj⟩ := List.getElem?_of_mem (List.mem_of_find?_eq_some hf)
      have hr : r.1 = n := by have z := List.find?_some hf; exact beq_iff_eq.mp z
      exact Or.inr ⟨j, r, rfl, hj, hr, lqN_some h2 hj hr _ (List.getElem?_eq_some_iff.mp hj).1⟩
  cases hs : S.sv with
  | none =>
    simp only []
    rcases key (-1) with ⟨a, b⟩ | ⟨j, r, a, b, c, d⟩
    · exact Or.inl ⟨a, b⟩
    · exact Or.inr (Or.inr ⟨j, r, a, b, d⟩)
  | some r0 =>
    simp only []
    by_cases z : r0.1 = n
    · rw [if_pos z, if_pos z]
      rcases key 40 with ⟨a, b⟩ | ⟨j, r, a, b, c, d⟩
      · exact Or.inr (Or.inl ⟨r0, rfl, rfl, b⟩)
      · refine absurd (z.trans c.symm) (h3 r0.1 ?_ r.1 (List.mem_map.mpr ⟨r, List.mem_of_getElem? b, rfl⟩))
        rw [hs]; simp
    · rw [if_neg z, if_neg z]
      rcases key (-1) with ⟨a, b⟩ | ⟨j, r, a, b, c, d⟩
      · exact Or.inl ⟨a, b⟩
      · exact Or.inr (Or.inr ⟨j, r, a, b, d⟩)
/-- the sync goes over the blocks in order -/
theorem dl_some {b : Nat} {c0 : mC} : ∀ (bs : List mC) (acc : Option mC), (∀ c ∈ bs, ¬ c.2.2 = 0 → ∃ j, b ≤ j ∧ j < 256 ∧ c.1 = nI j) → (bs.map (·.1)).Nodup → b < 256 → (acc = none ∧ c0 ∈ bs ∨ acc = some c0 ∧ (∀ c ∈ bs, ¬ c.1 = c0.1) ∨ (∃ d j, acc = some d ∧ b < j ∧ j < 256 ∧ d.1 = nI j ∧ c0 ∈ bs)) → c0.1 = nI b → ¬ c0.2.2 = 0 → bs.foldl dlM acc = some c0 := by
  intro bs
  induction bs with
  | nil =>
    intro acc _ _ _ h _ _
    rcases h with ⟨_, h⟩ | ⟨h, _⟩ | ⟨d, j, _, _, _, _, h⟩
    · cases h
    · exact h
    · cases h
  | cons c t ih =>
    intro acc hd hn hb h e0 hz
    have hn1 := List.nodup_cons.mp (show (c.1 :: t.map (·.1)).Nodup from hn)
    rw [List.foldl_cons]
    refine ih _ (fun x hx => hd x (List.mem_cons_of_mem _ hx)) hn1.2 hb ?_ e0 hz
    have key : c = c0 → ∀ x ∈ t, ¬ x.1 = c0.1 := fun w x hx z => hn1.1 (List.mem_map.mpr ⟨x, hx, by rw [w]; exact z⟩)
    unfold dlM
    by_cases cz : c.2.2 = 0
    · rw [if_pos cz]
      have ne : ∀ {P : Prop}, c0 ∈ c :: t → (c0 ∈ t → P) → P := fun m f => by
        rcases List.mem_cons.mp m with w | w
        · exact absurd (by rw [w]; exact cz) hz
        · exact f w
      rcases h with ⟨a, m⟩ | ⟨a, m⟩ | ⟨d, j, a, b1, b2, b3, m⟩
      · exact ne m (fun w => Or.inl ⟨a, w⟩)
      · exact Or.inr (Or.inl ⟨a, fun x hx => m x (List.mem_cons_of_mem _ hx)⟩)
      · exact ne m (fun w => Or.inr (Or.inr ⟨d, j, a, b1, b2, b3, w⟩))
    · rw [if_neg cz]
      obtain ⟨jc, jc1, jc2, jc3⟩ := hd c List.mem_cons_self cz
      have bigger : c ≠ c0 → c0 ∈ t → b < jc := by
        intro w m
        have : jc ≠ b := fun z => hn1.1 (List.mem_map.mpr ⟨c0, m, by rw [e0, jc3, z]⟩)
        omega
      rcases h with ⟨a, m⟩ | ⟨a, m⟩ | ⟨d, j, a, b1, b2, b3, m⟩
      · subst a
        simp only []
        by_cases w : c = c0
        · exact Or.inr (Or.inl ⟨by rw [w], key w⟩)
        · have m : c0 ∈ t := (List.mem_cons.mp m).resolve_left (fun z => w z.symm)
          exact Or.inr (Or.inr ⟨c, jc, rfl, bigger w m, jc2, jc3, m⟩)
      · subst a
        simp only []
        have : ¬ c.1 < c0.1 := by rw [jc3, e0]; exact nI_nlt jc1 (by omega)
        rw [if_neg this]
        exact Or.inr (Or.inl ⟨rfl, fun x hx => m x (List.mem_cons_of_mem _ hx)⟩)
      · subst a
        simp only []
        by_cases w : c = c0
        · have : c.1 < d.1 := by rw [w, e0, b3]; exact nI_lt b1 (by omega)
          rw [if_pos this]
          exact Or.inr (Or.inl ⟨by rw [w], key w⟩)
        · have m : c0 ∈ t := (List.mem_cons.mp m).resolve_left (fun z => w z.symm)
          split
          · exact Or.inr (Or.inr ⟨c, jc, rfl, bigger w m, jc2, jc3, m⟩)
          · exact Or.inr (Or.inr ⟨d, j, rfl, b1, b2, b3, m⟩)
theorem dl_none : ∀ (bs : List mC), (∀ c ∈ bs, c.2.2 = 0) → bs.foldl dlM none = none := by
  intro bs
  induction bs with
  | nil => intro _; rfl
  | cons c t ih =>
    intro h
    rw [List.foldl_cons, show dlM none c = none from if_pos (h c List.mem_cons_self)]
    exact ih (fun x hx => h x (List.mem_cons_of_mem _ hx))
