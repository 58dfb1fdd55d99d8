/-! THE MODEL: the layer without addresses. -/
abbrev mC : Type := Int32 × Int32 × Int32
def mS : Type := (List mQ) × (Nat → Int32) × (List mC) × (Option mQ) × (Int32) × (Int32) × (Int32) × (Int32) × (Int32) × (Int32) × (Int32) × (List mC) × (Int32) × (Int32) × (Int32) × (Int32) × (Int32)
def mkS (q : List mQ) (mf : Nat → Int32) (ca : List mC) (sv : Option mQ) (ul : Int32) (tm : Int32) (hd : Int32) (up : Int32) (wy : Int32) (sd : Int32) (il : Int32) (bs : List mC) (nn : Int32) (hi : Int32) (mi : Int32) (ev : Int32) (ab : Int32) : mS := (q, mf, ca, sv, ul, tm, hd, up, wy, sd, il, bs, nn, hi, mi, ev, ab)
def mS.q (S : mS) : List mQ := S.1
def mS.mf (S : mS) : Nat → Int32 := S.2.1
def mS.ca (S : mS) : List mC := S.2.2.1
def mS.sv (S : mS) : Option mQ := S.2.2.2.1
def mS.ul (S : mS) : Int32 := S.2.2.2.2.1
def mS.tm (S : mS) : Int32 := S.2.2.2.2.2.1
def mS.hd (S : mS) : Int32 := S.2.2.2.2.2.2.1
def mS.up (S : mS) : Int32 := S.2.2.2.2.2.2.2.1
def mS.wy (S : mS) : Int32 := S.2.2.2.2.2.2.2.2.1
def mS.sd (S : mS) : Int32 := S.2.2.2.2.2.2.2.2.2.1
def mS.il (S : mS) : Int32 := S.2.2.2.2.2.2.2.2.2.2.1
def mS.bs (S : mS) : List mC := S.2.2.2.2.2.2.2.2.2.2.2.1
def mS.nn (S : mS) : Int32 := S.2.2.2.2.2.2.2.2.2.2.2.2.1
def mS.hi (S : mS) : Int32 := S.2.2.2.2.2.2.2.2.2.2.2.2.2.1
def mS.mi (S : mS) : Int32 := S.2.2.2.2.2.2.2.2.2.2.2.2.2.2.1
def mS.ev (S : mS) : Int32 := S.2.2.2.2.2.2.2.2.2.2.2.2.2.2.2.1
def mS.ab (S : mS) : Int32 := S.2.2.2.2.2.2.2.2.2.2.2.2.2.2.2.2
def updM (m : Nat → Int32) (c : mC) : Nat → Int32 := upd m c.1.toNatClampNeg c.2.1
def movM (mf : Nat → Int32) (ca : List mC) (k : Nat) : (Nat → Int32) × List mC := ((ca.take k).foldl updM mf, ca.drop k)
def vinM (mf : Nat → Int32) (ca : List mC) (b : Int32) : Int32 := match ca.find? (fun c => c.1 == b) with
  | some c => c.2.1
  | none => mf b.toNatClampNeg
def endX (mf : Nat → Int32) (ca : List mC) (r : mQ) : (Nat → Int32) × List mC :=
  if r.2.1 = 0 then (mf, ca) else if r.2.1 = 1 then movM mf (ca.eraseP (fun d => d.1 == r.2.2.1) ++ [(r.2.2.1, r.2.2.2.2, 0)]) ((ca.eraseP (fun d => d.1 == r.2.2.1)).length + 1 - 6) else movM mf ca ca.length
def endW (mf : Nat → Int32) (ca : List mC) (r : mQ) : Int32 := if r.2.1 = 0 then vinM mf ca r.2.2.1 else r.2.2.2.2
/-- the disk begins the request that it chooses -/
def begM (S : mS) : mS := match (chs S.q S.tm S.hd S.up S.wy).1 with
  | none => S
  | some k => match S.q[k]? with
    | none => S
    | some r => (mkS (S.q.eraseIdx k) S.mf S.ca (some r) (begU r S.ca.length S.hd) S.tm (begH r S.hd) ((chs S.q S.tm S.hd S.up S.wy).2) S.wy S.sd S.il S.bs S.nn S.hi S.mi S.ev S.ab)
/-- the request that it serves ends -/
def endM (S : mS) : mS := match S.sv with
  | none => S
  | some r => (mkS S.q ((endX S.mf S.ca r).1) ((endX S.mf S.ca r).2) none 0 (S.tm + S.ul) S.hd S.up S.wy (S.sd + 1) S.il S.bs S.nn S.hi S.mi S.ev S.ab)
def bgM (S : mS) : mS := match S.sv with
  | none => begM S
  | some _ => S
def nextM (S : mS) : mS := endM (bgM S)
def qOK (r : mQ) : Prop := (r.2.1 = 0 ∨ r.2.1 = 1 ∨ r.2.1 = 2) ∧ (r.2.1 ≠ 2 → bOK r.2.2.1)
def Inv (S : mS) (t : Nat) : Prop := (S.bs.length ≤ 10) ∧ (S.q.length ≤ 40) ∧ (S.ca.length ≤ 6) ∧ (∀ r ∈ S.q, qOK r) ∧ (∀ r, S.sv = some r → qOK r ∧ ∃ u, S.ul = nI u ∧ 1 ≤ u ∧ u ≤ 40) ∧ (∀ c ∈ S.ca, bOK c.1) ∧ (∀ c ∈ S.bs, bOK c.1) ∧ ((S.bs.map (·.1)).Nodup) ∧ ((S.ca.map (·.1)).Nodup) ∧ (∃ d, d < 32 ∧ S.hd = nI d) ∧ (S.up = 0 ∨ S.up = 1) ∧ (∃ w, w < 5 ∧ S.wy = nI w) ∧ (∃ n, n ≤ t ∧ S.tm = nI n)
theorem Inv.bs10 {S : mS} {t : Nat} (h : Inv S t) : S.bs.length ≤ 10 := h.1
theorem Inv.q40 {S : mS} {t : Nat} (h : Inv S t) : S.q.length ≤ 40 := h.2.1
theorem Inv.ca6 {S : mS} {t : Nat} (h : Inv S t) : S.ca.length ≤ 6 := h.2.2.1
theorem Inv.qok {S : mS} {t : Nat} (h : Inv S t) : ∀ r ∈ S.q, qOK r := h.2.2.2.1
theorem Inv.svok {S : mS} {t : Nat} (h : Inv S t) : ∀ r, S.sv = some r → qOK r ∧ ∃ u, S.ul = nI u ∧ 1 ≤ u ∧ u ≤ 40 := h.2.2.2.2.1
theorem Inv.caok {S : mS} {t : Nat} (h : Inv S t) : ∀ c ∈ S.ca, bOK c.1 := h.2.2.2.2.2.1
theorem Inv.bsok {S : mS} {t : Nat} (h : Inv S t) : ∀ c ∈ S.bs, bOK c.1 := h.2.2.2.2.2.2.1
theorem Inv.bsnd {S : mS} {t : Nat} (h : Inv S t) : (S.bs.map (·.1)).Nodup := h.2.2.2.2.2.2.2.1
theorem Inv.cand {S : mS} {t : Nat} (h : Inv S t) : (S.ca.map (·.1)).Nodup := h.2.2.2.2.2.2.2.2.1
theorem Inv.hd32 {S : mS} {t : Nat} (h : Inv S t) : ∃ d, d < 32 ∧ S.hd = nI d := h.2.2.2.2.2.2.2.2.2.1
theorem Inv.up01 {S : mS} {t : Nat} (h : Inv S t) : S.up = 0 ∨ S.up = 1 := h.2.2.2.2.2.2.2.2.2.2.1
theorem Inv.wy5 {S : mS} {t : Nat} (h : Inv S t) : ∃ w, w < 5 ∧ S.wy = nI w := h.2.2.2.2.2.2.2.2.2.2.2.1
theorem Inv.tmt {S : mS} {t : Nat} (h : Inv S t) : ∃ n, n ≤ t ∧ S.tm = nI n := h.2.2.2.2.2.2.2.2.2.2.2.2
theorem div8 : ∀ n, n < 256 → nI n / 8 = nI (n / 8) := by decide +kernel
theorem bOK.tr {b : Int32} (h : bOK b) : ∃ t, t < 32 ∧ b / 8 = nI t := by
  obtain ⟨n, hn, rfl⟩ := h
  exact ⟨n / 8, by omega, div8 n hn⟩
theorem tA0 : ∀ t, t < 32 → ∀ d, d < 32 → ¬ tA 0 (nI t) (nI d) < 0 := by decide +kernel
theorem tA12 : ∀ t, t < 32 → ∀ d, d < 32 → tA 1 (nI t) (nI d) < 0 → ¬ tA 2 (nI t) (nI d) < 0 := by decide +kernel
theorem tA21 : ∀ t, t < 32 → ∀ d, d < 32 → tA 2 (nI t) (nI d) < 0 → ¬ tA 1 (nI t) (nI d) < 0 := by decide +kernel
theorem absU : ∀ t, t < 32 → ∀ d, d < 32 → absJ (nI t - nI d) + 2 = nI ((if d ≤ t then t - d else d - t) + 2) := by decide +kernel
theorem nearN_some {q : List mQ} {f : Int32 → Int32} {k : Nat} {r : mQ} (hk : q[k]? = some r) (hr : rdy q k = true) (hf : ¬ f r.2.2.1 < 0) : ∀ n, k < n → ∃ j, nearN q f n = some j := by
  intro n
  induction n with
  | zero => intro h; omega
  | succ n ih =>
    intro h
    by_cases z : k = n
    · subst z
      show ∃ j, nearF q f (nearN q f k) k = some j
      unfold nearF
      rw [hk]
      simp only []
      rw [if_pos ⟨hr, hf⟩]
      cases nearN q f k with
      | none => exact ⟨_, rfl⟩
      | some j =>
        simp only []
        cases q[j]? with
        | none => exact ⟨_, rfl⟩
        | some s =>
          simp only []
          split
          · exact ⟨_, rfl⟩
          · exact ⟨_, rfl⟩
    · obtain ⟨j, hj⟩ := ih (by omega)
      show ∃ j, nearF q f (nearN q f n) n = some j
      unfold nearF
      rw [hj]
      cases q[n]? with
      | none => exact ⟨_, rfl⟩
      | some s =>
        simp only []
        split
        · cases q[j]? with
          | none => exact ⟨_, rfl⟩
          | some s2 =>
            simp only []
            split
            · exact ⟨_, rfl⟩
            · exact ⟨_, rfl⟩
        · exact ⟨_, rfl⟩
/-- the disk always finds one -/
theorem chs_ok {q : List mQ} {tm hd up wy : Int32} (hq : q ≠ []) (hok : ∀ r ∈ q, qOK r) (hd32 : ∃ d, d < 32 ∧ hd = nI d) (hup : up = 0 ∨ up = 1) : ∃ k r, (chs q tm hd up wy).1 = some k ∧ q[k]? = some r := by
  cases q with
  | nil => exact absurd rfl hq
  | cons r0 t =>
    obtain ⟨d, hd1, rfl⟩ := hd32
    by_cases c : r0.2.1 = 2 ∨ wy = 0 ∨ (wy = 4 ∧ ¬ tm - r0.2.2.2.1 < 100)
    · exact ⟨0, r0, by rw [chs_0 c], rfl⟩
    · have h2 : ¬ r0.2.1 = 2 := fun z => c (Or.inl z)
      obtain ⟨tr, ht, htr⟩ := ((hok r0 List.mem_cons_self).2 h2).tr
      have hr0 : rdy (r0 :: t) 0 = true := by unfold rdy; simp
      have key : ∀ side : Int32, ¬ tA side (nI tr) (nI d) < 0 → ∃ k r, nearN (r0 :: t) (fA side (nI d)) (r0 :: t).length = some k ∧ (r0 :: t)[k]? = some r := by
        intro side hs
        obtain ⟨j, hj⟩ := nearN_some (q := r0 :: t) (f := fA side (nI d)) (k := 0) (r := r0) rfl hr0 (by show ¬ tA side (r0.2.2.1 / 8) (nI d) < 0; rw [htr]; exact hs) (r0 :: t).length (by simp)
        have := (nearN_lt _ _ _ _ hj).2
        exact ⟨j, (r0 :: t)[j], hj, List.getElem?_eq_getElem this⟩
      cases hn : nearN (r0 :: t) (fA (sideP wy up) (nI d)) (r0 :: t).length with
      | some k =>
        have := (nearN_lt _ _ _ _ hn).2
        exact ⟨k, (r0 :: t)[k], by rw [chs_1 c hn], List.getElem?_eq_getElem this⟩
      | none =>
        by_cases w : wy = 2
        · rw [chs_2 c hn w]
          refine key _ ?_
          have hx : tA (sideP wy up) (nI tr) (nI d) < 0 := by
            by_cases z : tA (sideP wy up) (nI tr) (nI d) < 0
            · exact z
            · obtain ⟨k, r, hk, -⟩ := key _ z
              rw [hn] at hk; cases hk
          subst w
          rcases hup with rfl | rfl
          · exact tA21 tr ht d hd1 hx
          · exact tA12 tr ht d hd1 hx
        · rw [chs_3 c hn w]
          exact key 3 (show ¬ nI tr < 0 from nI_pos (by omega))
theorem chs_up {q : List mQ} {tm hd up wy : Int32} (hup : up = 0 ∨ up = 1) : (chs q tm hd up wy).2 = 0 ∨ (chs q tm hd up wy).2 = 1 := by
  unfold chs
  split
  · exact hup
  · split
    · exact hup
    · split
      · exact hup
      · split
        · show (if up = 0 then (1 : Int32) else 0) = 0 ∨ (if up = 0 then (1 : Int32) else 0) = 1
          split
          · exact Or.inr rfl
          · exact Or.inl rfl
        · exact hup
theorem begU_ok {r : mQ} {n : Nat} {hd : Int32} (hr : qOK r) (hn : n ≤ 6) (hd32 : ∃ d, d < 32 ∧ hd = nI d) : ∃ u, begU r n hd = nI u ∧ 1 ≤ u ∧ u ≤ 40 := by
  obtain ⟨d, hd1, rfl⟩ := hd32
  unfold begU
  by_cases z : r.2.1 = 2
  · rw [if_pos z]
    exact ⟨n + 1, nI_1 n, by omega, by omega⟩
  · rw [if_neg z]
    obtain ⟨t, ht, he⟩ := (hr.2 z).tr
    rw [he, absU t ht d hd1]
    exact ⟨_, rfl, by omega, by split <;> omega⟩
theorem begH_ok {r : mQ} {hd : Int32} (hr : qOK r) (hd32 : ∃ d, d < 32 ∧ hd = nI d) : ∃ d, d < 32 ∧ begH r hd = nI d := by
  unfold begH
  by_cases z : r.2.1 = 2
  · rw [if_pos z]; exact hd32
  · rw [if_neg z]
    obtain ⟨t, ht, he⟩ := (hr.2 z).tr
    exact ⟨t, ht, he⟩
