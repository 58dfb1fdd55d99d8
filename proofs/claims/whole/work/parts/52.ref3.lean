/-! THE REFERENCE: how far; what its reads mean. -/
/-- the arrays hold the buffers, the cache -/
def bL (ar : Nat → Nat → Int32) (bs : List mC) : Prop := ∀ k c, bs[k]? = some c → ar 11 k = c.1 ∧ ar 12 k = c.2.1 ∧ ar 13 k = c.2.2
def cL (ar : Nat → Nat → Int32) (ca : List mC) : Prop := ∀ k c, ca[k]? = some c → ar 22 k = c.1 ∧ ar 23 k = c.2.1
theorem lastV_none {f g : Nat → Int32} {b v : Int32} : ∀ n, (∀ k, k < n → ¬ f k = b) → lastV f g b v n = v := by
  intro n
  induction n with
  | zero => intro _; rfl
  | succ n ih =>
    intro h
    show (if f n = b then g n else lastV f g b v n) = v
    rw [if_neg (h n (by omega))]
    exact ih (fun k hk => h k (by omega))
theorem lastV_some {f g : Nat → Int32} {b v : Int32} {j : Nat} : ∀ n, j < n → f j = b → (∀ k, k < n → f k = b → k = j) → lastV f g b v n = g j := by
  intro n
  induction n with
  | zero => intro h; omega
  | succ n ih =>
    intro hj hf hu
    show (if f n = b then g n else lastV f g b v n) = g j
    by_cases z : f n = b
    · rw [if_pos z, hu n (by omega) z]
    · rw [if_neg z]
      have hne : j ≠ n := fun e => z (by rw [← e]; exact hf)
      exact ih (by omega) hf (fun k hk e => hu k (by omega) e)
theorem nd_at {xs : List mC} (hn : (xs.map (·.1)).Nodup) {i j : Nat} {c d : mC} (hi : xs[i]? = some c) (hj : xs[j]? = some d) (e : c.1 = d.1) : i = j := by
  have h1 : (xs.map (·.1))[i]? = some c.1 := by rw [List.getElem?_map, hi]; rfl
  have h2 : (xs.map (·.1))[j]? = some c.1 := by rw [List.getElem?_map, hj, e]; rfl
  exact (List.getElem?_inj (List.getElem?_eq_some_iff.mp h1).1 hn).mp (h1.trans h2.symm)
/-- the value of a block inside the disk -/
theorem lastV_vin {ar : Nat → Nat → Int32} {mf : Nat → Int32} {ca : List mC} {b : Nat} (hc : cL ar ca) (hn : (ca.map (·.1)).Nodup) (hb : b < 2 ^ 31) (hm : ar 9 b = mf b) : lastV (ar 22) (ar 23) (nI b) (ar 9 b) ca.length = vinM mf ca (nI b) := by
  unfold vinM
  cases hf : ca.find? (fun c => c.1 == nI b) with
  | none =>
    rw [lastV_none _ (fun k hk z => ?_)]
    · show ar 9 b = mf (nI b).toNatClampNeg
      rw [nI_clamp hb, hm]
    · obtain ⟨c, hcc⟩ := mp_get hk
      have := List.find?_eq_none.mp hf c (List.mem_of_getElem? hcc)
      rw [(hc k c hcc).1] at z
      exact this (beq_iff_eq.mpr z)
  | some c =>
    obtain ⟨j, hj⟩ := List.getElem?_of_mem (List.mem_of_find?_eq_some hf)
    have hcb : c.1 = nI b := by have z := List.find?_some hf; exact beq_iff_eq.mp z
    have hlt := (List.getElem?_eq_some_iff.mp hj).1
    rw [lastV_some _ hlt ((hc j c hj).1.trans hcb) (fun k hk z => ?_)]
    · exact (hc j c hj).2
    · obtain ⟨d, hd⟩ := mp_get hk
      rw [(hc k d hd).1] at z
      exact nd_at hn hd hj (z.trans hcb.symm)
theorem lastI_none {f : Nat → Int32} {b : Int32} : ∀ n, (∀ k, k < n → ¬ f k = b) → lastI f b n = -1 := by
  intro n
  induction n with
  | zero => intro _; rfl
  | succ n ih =>
    intro h
    show (if f n = b then nI n else lastI f b n) = -1
    rw [if_neg (h n (by omega))]
    exact ih (fun k hk => h k (by omega))
theorem lastI_some {f : Nat → Int32} {b : Int32} {j : Nat} : ∀ n, j < n → f j = b → (∀ k, k < n → f k = b → k = j) → lastI f b n = nI j := by
  intro n
  induction n with
  | zero => intro h; omega
  | succ n ih =>
    intro hj hf hu
    show (if f n = b then nI n else lastI f b n) = nI j
    by_cases z : f n = b
    · rw [if_pos z, hu n (by omega) z]
    · rw [if_neg z]
      have hne : j ≠ n := fun e => z (by rw [← e]; exact hf)
      exact ih (by omega) hf (fun k hk e => hu k (by omega) e)
/-- the place of a block's buffer -/
theorem lastI_bf {ar : Nat → Nat → Int32} {S : mS} {b : Int32} (hc : bL ar S.bs) (hn : (S.bs.map (·.1)).Nodup) : (bfM S b = none ∧ lastI (ar 11) b S.bs.length = -1) ∨ ∃ j c, S.bs[j]? = some c ∧ c.1 = b ∧ bfM S b = some c ∧ lastI (ar 11) b S.bs.length = nI j := by
  unfold bfM
  cases hf : S.bs.find? (fun c => c.1 == b) with
  | none =>
    refine Or.inl ⟨rfl, lastI_none _ (fun k hk z => ?_)⟩
    obtain ⟨c, hcc⟩ := mp_get hk
    have := List.find?_eq_none.mp hf c (List.mem_of_getElem? hcc)
    rw [(hc k c hcc).1] at z
    exact this (beq_iff_eq.mpr z)
  | some c =>
    obtain ⟨j, hj⟩ := List.getElem?_of_mem (List.mem_of_find?_eq_some hf)
    have hcb : c.1 = b := by have z := List.find?_some hf; exact beq_iff_eq.mp z
    have hlt := (List.getElem?_eq_some_iff.mp hj).1
    refine Or.inr ⟨j, c, hj, hcb, rfl, lastI_some _ hlt ((hc j c hj).1.trans hcb) (fun k hk z => ?_)⟩
    obtain ⟨d, hd⟩ := mp_get hk
    rw [(hc k d hd).1] at z
    exact nd_at hn hd hj (z.trans hcb.symm)
