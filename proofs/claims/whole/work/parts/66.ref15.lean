/-! THE REFERENCE: load and save. -/
theorem bgM_mf (S : mS) : (bgM S).mf = S.mf ∧ (bgM S).ca = S.ca := by
  unfold bgM begM
  cases S.sv with
  | some r => exact ⟨rfl, rfl⟩
  | none =>
    simp only []
    split
    · exact ⟨rfl, rfl⟩
    · split
      · exact ⟨rfl, rfl⟩
      · exact ⟨rfl, rfl⟩
theorem bgM_sv {S : mS} {t : Nat} (hI : Inv S t) (hs : S.sv = none) (hq : S.q ≠ []) : ∃ k r, S.q[k]? = some r ∧ (bgM S).sv = some r ∧ (bgM S).q = S.q.eraseIdx k ∧ bgM S = begM S := by
  obtain ⟨k, r, hk, hr⟩ := chs_ok (tm := S.tm) (wy := S.wy) hq hI.qok hI.hd32 hI.up01
  refine ⟨k, r, hr, ?_, ?_, ?_⟩
  · rw [bgM_2 hs hk hr]; rfl
  · rw [bgM_2 hs hk hr]; rfl
  · unfold bgM; rw [hs]
theorem cnt_0 {S : mS} (h : cnt S = 0) : S.sv = none ∧ S.q = [] := by
  unfold cnt at h
  cases e : S.sv with
  | some r => rw [e] at h; simp at h
  | none => exact ⟨rfl, List.length_eq_zero_iff.mp (by omega)⟩
/-- the wanted request is there, and reads -/
def WR (w : Int32) (S : mS) : Prop := (∀ r ∈ S.sv.toList ++ S.q, r.1 = w → r.2.1 = 0) ∧ ∃ r ∈ S.sv.toList ++ S.q, r.1 = w
theorem erp_mem {α : Type} {q : List α} {k : Nat} {r x : α} (h : q[k]? = some r) : x ∈ r :: q.eraseIdx k ↔ x ∈ q := (er_perm h).mem_iff
theorem WR.bg {w : Int32} {S : mS} {t : Nat} (hI : Inv S t) (h : WR w S) : WR w (bgM S) := by
  cases hs : S.sv with
  | some r => rw [bgM_s hs]; exact h
  | none =>
    by_cases hq : S.q = []
    · rw [bgM_n hs hq]; exact h
    · obtain ⟨k, r, hr, e1, e2, -⟩ := bgM_sv hI hs hq
      obtain ⟨h1, x, h2, h3⟩ := h
      rw [hs] at h1 h2
      unfold WR
      rw [e1, e2]
      exact ⟨fun y hy => h1 y ((erp_mem hr).mp hy), x, (erp_mem hr).mpr h2, h3⟩
theorem endM_q (S : mS) : (endM S).q = S.q := by
  unfold endM
  cases S.sv <;> rfl
theorem endM_sv (S : mS) : (endM S).sv = none := by
  unfold endM
  cases h : S.sv with
  | none => simp only []; exact h
  | some r => rfl
theorem WR.end {w : Int32} {S : mS} {r : mQ} (h : WR w S) (hs : S.sv = some r) (hr : ¬ r.1 = w) : WR w (endM S) := by
  obtain ⟨h1, x, h2, h3⟩ := h
  rw [hs] at h1 h2
  unfold WR
  rw [endM_q, endM_sv]
  refine ⟨fun y hy => h1 y (List.mem_cons_of_mem _ hy), x, ?_, h3⟩
  rcases List.mem_cons.mp h2 with z | z
  · rw [z] at h3; exact absurd h3 hr
  · exact z
theorem WR.cnt {w : Int32} {S : mS} (h : WR w S) : S.sv ≠ none ∨ S.q ≠ [] := by
  obtain ⟨-, x, h2, -⟩ := h
  cases hs : S.sv with
  | some r => exact Or.inl (fun z => by cases z)
  | none =>
    rw [hs] at h2
    exact Or.inr (fun z => by rw [z] at h2; cases h2)
theorem WR.add {S : mS} {N : Nat} {b : Int32} (hN : NB S N) (hN2 : N < 2 ^ 31) : WR S.nn (addM S 0 b 0) := by
  have e : (addM S 0 b 0).sv.toList ++ (addM S 0 b 0).q = (S.sv.toList ++ S.q) ++ [(S.nn, 0, b, S.tm, 0)] := (List.append_assoc _ _ _).symm
  unfold WR
  rw [e]
  refine ⟨fun r hr z => ?_, (S.nn, 0, b, S.tm, 0), List.mem_append.mpr (Or.inr List.mem_cons_self), rfl⟩
  rcases List.mem_append.mp hr with w | w
  · have : ∃ j, j < N ∧ r.1 = nI j := by
      rcases List.mem_append.mp w with w | w
      · exact hN.2.2 r (by simpa using w)
      · exact hN.2.1 r w
    obtain ⟨j, hj, ej⟩ := this
    have := (nI_eq (by omega) hN2).mp (ej.symm.trans (z.trans hN.1))
    omega
  · rw [List.mem_singleton.mp w]
theorem ldM_1 {f : Nat} {w : Int32} {S : mS} {r : mQ} (h : (bgM S).sv = some r) (hr : r.1 = w) : ldM (f + 1) w S = (nextM S, endW S.mf S.ca r) := by
  show (match (bgM S).sv with | none => _ | some r => _) = _
  rw [h]; simp only []; rw [if_pos hr]
theorem ldM_2 {f : Nat} {w : Int32} {S : mS} {r : mQ} (h : (bgM S).sv = some r) (hr : ¬ r.1 = w) : ldM (f + 1) w S = ldM f w (nextM S) := by
  show (match (bgM S).sv with | none => _ | some r => _) = _
  rw [h]; simp only []; rw [if_neg hr]
theorem RM.put {sc sc1 : Nat → Int32} {ar ar1 : Nat → Nat → Int32} {S : mS} {b v d : Int32} {bs : List mC} (hR : RM sc ar S) (hd : d = 0 ∨ d = 1) (e : S.bs.eraseP (fun c => c.1 == b) = bs) (e10 : sc1 10 = nI (bs.length + 1)) (ej : ∀ j, j ≠ 10 → sc1 j = sc j) (ho : ∀ k, k < 11 ∨ 13 < k → ar1 k = ar k) (hb : bL ar1 (bs ++ [(b, v, d)])) : RM sc1 ar1 (putM S b v d) := by
  have : putM S b v d = setB S (bs ++ [(b, v, d)]) := by rw [← e]; rfl
  rw [this]
  refine hR.bs (by rw [e10, List.length_append]; rfl) ej ho hb (bZ_ap (fun c hc => hR.2.2.1.2.2 c ?_) hd)
  rw [← e] at hc; exact List.mem_of_mem_eraseP hc
theorem room_nb {S : mS} {b : Int32} (h : S.bs.find? (fun c => c.1 == b) = none) : (roomM S).bs.find? (fun c => c.1 == b) = none := by
  have : ∀ c ∈ (roomM S).bs, c ∈ S.bs := by
    intro c hc
    by_cases z : S.bs.length < 10
    · rw [roomM_1 z] at hc; exact hc
    · cases e : S.bs with
      | nil => rw [e] at z; exact absurd (by decide) z
      | cons d t =>
        rw [roomM_2 z e] at hc
        split at hc
        · exact List.mem_cons_of_mem _ hc
        · rw [wb_bs] at hc; exact List.mem_cons_of_mem _ hc
  exact List.find?_eq_none.mpr (fun c hc => List.find?_eq_none.mp h c (this c hc))
theorem blk {b : Int32} (h : b.toInt < 0 ∨ (256 : Int) ≤ b.toInt) : b < 0 ∨ (256 : Int32) ≤ b := by
  rcases h with h | h
  · exact Or.inl (Int32.lt_iff_toInt_lt.mpr h)
  · exact Or.inr (Int32.le_iff_toInt_le.mpr h)
set_option maxHeartbeats 800000 in
set_option maxRecDepth 100000 in
theorem c_MD_load_b (l : Launch) (E : fh_E) (h : fh_H) (md : Nat) (ad : Nat → Nat) (sc : Nat → Int32) (ar : Nat → Nat → Int32) (hM : MDs E h md ad sc ar) (S : mS) (t : Nat) (hR : RM sc ar S) (hI : Inv S t) (b : Int32) (hbad : b.toInt < 0 ∨ (256 : Int) ≤ b.toInt) : fh_Met l y_MD_load w_MD_load ({ frames := 5, cells := 0, slots := 0, locals := 111 }) E [.ref md, .int b] h (fun r h1 => r = some (.int 0) ∧ ∃ sc1 ar1, MDs E h1 md ad sc1 ar1 ∧ RM sc1 ar1 S ∧ sc1 0 = 1 ∧ KM h h1 md ad) 0 0 := by
  refine fh_ofW (cc := b_MD_load) (maxL := 5) (ret := (some .int)) (by decide) rfl (Nat.le_of_ble_eq_true rfl) ?_
  intro p e s m below meth c A ls hx hb hr hml hown hts hlocks hname hnoh hadm hA hK hZ hP hS hl
  have hG : ∀ w ∈ G, w.before _ s = true := fun w hw => hts w (List.mem_cons_of_mem _ hw)
  have hown : s.vm.findClass R_MD = some m.cls := hown
  have hl : lv_has ls 5 [(0, .ref md), (1, .int b)] := hl
  have hR0 := hR
  obtain ⟨⟨a1, a2, a3, a4, a5, a6, a7, a8⟩, a9, ⟨a10, a11, a12⟩, a14, ⟨a15, a16⟩, ⟨a21, a22⟩, ⟨a24, a25⟩, a26, a27, a28⟩ := hR
  have i1 := hI.bs10
  have i2 := hI.q40
  have i3 := hI.ca6
  have km_1 : h md = some (.inr (7, [.int (sc 0), .int (sc 1), .int (sc 2), .int (sc 3), .int (sc 4), .int (sc 5), .int (sc 6), .int (sc 7), .int (sc 8), .ref (ad 9), .int (sc 10), .ref (ad 11), .ref (ad 12), .ref (ad 13), .int (sc 14), .int (sc 15), .ref (ad 16), .ref (ad 17), .ref (ad 18), .ref (ad 19), .ref (ad 20), .int (sc 21), .ref (ad 22), .ref (ad 23), .int (sc 24), .int (sc 25), .int (sc 26), .int (sc 27), .int (sc 28)])) := hM.1
  refine lv_aload_n hx hb d_MD_load_0 rfl (lv_at hl 0 rfl) ?_
  refine lv_iload_n hx hb d_MD_load_1 rfl (lv_at hl 1 rfl) ?_
  refine fh_callS (y := y_MD_isBlock) (bytes := b_MD_isBlock) (maxL := 1) (ret := (some .boolean)) (index := 131) (As := [.int b]) (rest := [.ref md]) ⟨hx, hb, hml, hown, hG⟩ (c_MD_isBlock l E h b) ⟨callB_of 1 hG (gB gm772) rfl rfl rfl (hG _ gm8) (hG _ gm770) hdy_MD_isBlock ⟨Nat.le_of_ble_eq_true rfl, Nat.le_of_ble_eq_true rfl⟩, hG _ gm771⟩ hK hZ hP hS hA rfl hl.1 rfl (Nat.le_of_ble_eq_true rfl) d_MD_load_2 ⟨Nat.le_of_ble_eq_true rfl, Nat.le_of_ble_eq_true rfl⟩ (fun r h1 H locs hq9 hP hS => ?_)
  obtain ⟨rfl, e9⟩ := hq9
  rw [e9] at hP
  refine W.eq (g2 := F0 m 5 ls [.int (if b < 0 ∨ (256 : Int32) ≤ b then 0 else 1), .ref md]) rfl ?_
  refine W.eq (g2 := F0 m 5 ls [.int 0, .ref md]) (by rw [if_pos (blk hbad)]) ?_
  refine lv_if_ne (tgt := 12) hx hb d_MD_load_5 (by decide) (fun c_2 => ?_) (fun c_2 => ?_)
  · skip
    exact absurd rfl c_2
  · skip
    refine lv_iconst (v := 1) hx hb d_MD_load_8 (by decide) ?_
    refine lv_goto (tgt := 28) hx hb d_MD_load_9 (by decide) ?_
    refine fh_put hx hb hG C_MD iG_MD hown hK hP hS km_1 0 (by decide) gm673 rfl (v := .int 1) rfl rfl (Nat.le_of_ble_eq_true rfl) d_MD_load_28 (fun H locs hP hS => ?_)
    obtain ⟨h_3, eh_4⟩ : ∃ z : fh_H, z = va_up h md (some (.inr (7, [.int 1, .int (sc 1), .int (sc 2), .int (sc 3), .int (sc 4), .int (sc 5), .int (sc 6), .int (sc 7), .int (sc 8), .ref (ad 9), .int (sc 10), .ref (ad 11), .ref (ad 12), .ref (ad 13), .int (sc 14), .int (sc 15), .ref (ad 16), .ref (ad 17), .ref (ad 18), .ref (ad 19), .ref (ad 20), .int (sc 21), .ref (ad 22), .ref (ad 23), .int (sc 24), .int (sc 25), .int (sc 26), .int (sc 27), .int (sc 28)]))) := ⟨_, rfl⟩
    have hP : fh_P E.1 vwCl A h_3 H := by rw [eh_4]; exact hP
    obtain ⟨sc_5, es_6⟩ : ∃ z : Nat → Int32, z = upd sc 0 (1) := ⟨_, rfl⟩
    have m_7 : MDs E h_3 md ad sc_5 ar := by rw [es_6]; exact hM.setS (by rw [eh_4]; rfl)
    have K_8 : KM h h_3 md ad := (KM.rfl).trans (KM.upS eh_4)
    have km_9 : h_3 md = some (.inr (7, [.int (sc_5 0), .int (sc_5 1), .int (sc_5 2), .int (sc_5 3), .int (sc_5 4), .int (sc_5 5), .int (sc_5 6), .int (sc_5 7), .int (sc_5 8), .ref (ad 9), .int (sc_5 10), .ref (ad 11), .ref (ad 12), .ref (ad 13), .int (sc_5 14), .int (sc_5 15), .ref (ad 16), .ref (ad 17), .ref (ad 18), .ref (ad 19), .ref (ad 20), .int (sc_5 21), .ref (ad 22), .ref (ad 23), .int (sc_5 24), .int (sc_5 25), .int (sc_5 26), .int (sc_5 27), .int (sc_5 28)])) := m_7.1
    refine lv_aload_n hx hb d_MD_load_31 rfl (lv_at hl 0 rfl) ?_
    refine fh_get hx hb hG C_MD iG_MD hown hK hP km_9 0 (by decide) gm673 rfl d_MD_load_32 ?_
    rw [show sc_5 0 = 1 by rw [es_6, upd_eq]]
    refine lv_if_le (tgt := 40) hx hb d_MD_load_35 (by decide) (fun c_10 => ?_) (fun c_10 => ?_)
    · skip
      exact absurd c_10 (by decide)
    · skip
      refine lv_iconst (v := 0) hx hb d_MD_load_38 (by decide) ?_
      exact fh_iret hx hb hr hlocks (Nat.le_of_ble_eq_true rfl) (Nat.le_of_ble_eq_true rfl) hP hS ⟨rfl, sc_5, ar, m_7, by rw [es_6]; exact hR0.code, by rw [es_6, upd_eq], K_8⟩ d_MD_load_39

set_option maxHeartbeats 800000 in
set_option maxRecDepth 100000 in
theorem c_MD_load_q (l : Launch) (E : fh_E) (h : fh_H) (md : Nat) (ad : Nat → Nat) (sc : Nat → Int32) (ar : Nat → Nat → Int32) (hM : MDs E h md ad sc ar) (S : mS) (t : Nat) (hR : RM sc ar S) (hI : Inv S t) (n : Nat) (hn : n < 256) (hbad : 40 < S.q.length + 2) : fh_Met l y_MD_load w_MD_load ({ frames := 5, cells := 0, slots := 0, locals := 111 }) E [.ref md, .int (nI n)] h (fun r h1 => r = some (.int 0) ∧ ∃ sc1 ar1, MDs E h1 md ad sc1 ar1 ∧ RM sc1 ar1 S ∧ sc1 0 = 2 ∧ KM h h1 md ad) 0 0 := by
  refine fh_ofW (cc := b_MD_load) (maxL := 5) (ret := (some .int)) (by decide) rfl (Nat.le_of_ble_eq_true rfl) ?_
  intro p e s m below meth c A ls hx hb hr hml hown hts hlocks hname hnoh hadm hA hK hZ hP hS hl
  have hG : ∀ w ∈ G, w.before _ s = true := fun w hw => hts w (List.mem_cons_of_mem _ hw)
  have hown : s.vm.findClass R_MD = some m.cls := hown
  have hl : lv_has ls 5 [(0, .ref md), (1, .int (nI n))] := hl
  have hR0 := hR
  obtain ⟨⟨a1, a2, a3, a4, a5, a6, a7, a8⟩, a9, ⟨a10, a11, a12⟩, a14, ⟨a15, a16⟩, ⟨a21, a22⟩, ⟨a24, a25⟩, a26, a27, a28⟩ := hR
  have i1 := hI.bs10
  have i2 := hI.q40
  have i3 := hI.ca6
  have km_1 : h md = some (.inr (7, [.int (sc 0), .int (sc 1), .int (sc 2), .int (sc 3), .int (sc 4), .int (sc 5), .int (sc 6), .int (sc 7), .int (sc 8), .ref (ad 9), .int (sc 10), .ref (ad 11), .ref (ad 12), .ref (ad 13), .int (sc 14), .int (sc 15), .ref (ad 16), .ref (ad 17), .ref (ad 18), .ref (ad 19), .ref (ad 20), .int (sc 21), .ref (ad 22), .ref (ad 23), .int (sc 24), .int (sc 25), .int (sc 26), .int (sc 27), .int (sc 28)])) := hM.1
  refine lv_aload_n hx hb d_MD_load_0 rfl (lv_at hl 0 rfl) ?_
  refine lv_iload_n hx hb d_MD_load_1 rfl (lv_at hl 1 rfl) ?_
  refine fh_callS (y := y_MD_isBlock) (bytes := b_MD_isBlock) (maxL := 1) (ret := (some .boolean)) (index := 131) (As := [.int (nI n)]) (rest := [.ref md]) ⟨hx, hb, hml, hown, hG⟩ (c_MD_isBlock l E h (nI n)) ⟨callB_of 1 hG (gB gm772) rfl rfl rfl (hG _ gm8) (hG _ gm770) hdy_MD_isBlock ⟨Nat.le_of_ble_eq_true rfl, Nat.le_of_ble_eq_true rfl⟩, hG _ gm771⟩ hK hZ hP hS hA rfl hl.1 rfl (Nat.le_of_ble_eq_true rfl) d_MD_load_2 ⟨Nat.le_of_ble_eq_true rfl, Nat.le_of_ble_eq_true rfl⟩ (fun r h1 H locs hq9 hP hS => ?_)
  obtain ⟨rfl, e9⟩ := hq9
  rw [e9] at hP
  refine W.eq (g2 := F0 m 5 ls [.int (if (nI n) < 0 ∨ (256 : Int32) ≤ (nI n) then 0 else 1), .ref md]) rfl ?_
  refine W.eq (g2 := F0 m 5 ls [.int 1, .ref md]) (by rw [if_neg (fun z => z.elim (nI_pos (by omega)) (nI_ge (b := 256) hn (by decide)))]) ?_
  refine lv_if_ne (tgt := 12) hx hb d_MD_load_5 (by decide) (fun c_2 => ?_) (fun c_2 => ?_)
  · skip
    refine lv_aload_n hx hb d_MD_load_12 rfl (lv_at hl 0 rfl) ?_
    refine fh_get hx hb hG C_MD iG_MD hown hK hP km_1 15 (by decide) gm688 rfl d_MD_load_13 ?_
    rw [a15]
    refine lv_iconst (v := 2) hx hb d_MD_load_16 (by decide) ?_
    refine lv_iadd hx hb d_MD_load_17 ?_
    refine W.eq (g2 := F0 m 18 ls [.int (nI (S.q.length + 2)), .ref md]) (by rw [show (2 : Int32) = nI 2 from rfl, nI_add]) ?_
    refine lv_bipush (v := 40) hx hb d_MD_load_18 (by decide) ?_
    refine lv_icmp_le (tgt := 27) hx hb d_MD_load_20 (by decide) (fun c_3 => ?_) (fun c_3 => ?_)
    · skip
      exact absurd c_3 (nI_ge (a := 40) (by omega) (by omega))
    · skip
      refine lv_iconst (v := 2) hx hb d_MD_load_23 (by decide) ?_
      refine lv_goto (tgt := 28) hx hb d_MD_load_24 (by decide) ?_
      refine fh_put hx hb hG C_MD iG_MD hown hK hP hS km_1 0 (by decide) gm673 rfl (v := .int 2) rfl rfl (Nat.le_of_ble_eq_true rfl) d_MD_load_28 (fun H locs hP hS => ?_)
      obtain ⟨h_4, eh_5⟩ : ∃ z : fh_H, z = va_up h md (some (.inr (7, [.int 2, .int (sc 1), .int (sc 2), .int (sc 3), .int (sc 4), .int (sc 5), .int (sc 6), .int (sc 7), .int (sc 8), .ref (ad 9), .int (sc 10), .ref (ad 11), .ref (ad 12), .ref (ad 13), .int (sc 14), .int (sc 15), .ref (ad 16), .ref (ad 17), .ref (ad 18), .ref (ad 19), .ref (ad 20), .int (sc 21), .ref (ad 22), .ref (ad 23), .int (sc 24), .int (sc 25), .int (sc 26), .int (sc 27), .int (sc 28)]))) := ⟨_, rfl⟩
      have hP : fh_P E.1 vwCl A h_4 H := by rw [eh_5]; exact hP
      obtain ⟨sc_6, es_7⟩ : ∃ z : Nat → Int32, z = upd sc 0 (2) := ⟨_, rfl⟩
      have m_8 : MDs E h_4 md ad sc_6 ar := by rw [es_7]; exact hM.setS (by rw [eh_5]; rfl)
      have K_9 : KM h h_4 md ad := (KM.rfl).trans (KM.upS eh_5)
      have km_10 : h_4 md = some (.inr (7, [.int (sc_6 0), .int (sc_6 1), .int (sc_6 2), .int (sc_6 3), .int (sc_6 4), .int (sc_6 5), .int (sc_6 6), .int (sc_6 7), .int (sc_6 8), .ref (ad 9), .int (sc_6 10), .ref (ad 11), .ref (ad 12), .ref (ad 13), .int (sc_6 14), .int (sc_6 15), .ref (ad 16), .ref (ad 17), .ref (ad 18), .ref (ad 19), .ref (ad 20), .int (sc_6 21), .ref (ad 22), .ref (ad 23), .int (sc_6 24), .int (sc_6 25), .int (sc_6 26), .int (sc_6 27), .int (sc_6 28)])) := m_8.1
      refine lv_aload_n hx hb d_MD_load_31 rfl (lv_at hl 0 rfl) ?_
      refine fh_get hx hb hG C_MD iG_MD hown hK hP km_10 0 (by decide) gm673 rfl d_MD_load_32 ?_
      rw [show sc_6 0 = 2 by rw [es_7, upd_eq]]
      refine lv_if_le (tgt := 40) hx hb d_MD_load_35 (by decide) (fun c_11 => ?_) (fun c_11 => ?_)
      · skip
        exact absurd c_11 (by decide)
      · skip
        refine lv_iconst (v := 0) hx hb d_MD_load_38 (by decide) ?_
        exact fh_iret hx hb hr hlocks (Nat.le_of_ble_eq_true rfl) (Nat.le_of_ble_eq_true rfl) hP hS ⟨rfl, sc_6, ar, m_8, by rw [es_7]; exact hR0.code, by rw [es_7, upd_eq], K_9⟩ d_MD_load_39
  · skip
    exact absurd c_2 (by decide)

set_option maxHeartbeats 800000 in
set_option maxRecDepth 100000 in
theorem c_MD_load (l : Launch) (E : fh_E) (h : fh_H) (md : Nat) (ad : Nat → Nat) (sc : Nat → Int32) (ar : Nat → Nat → Int32) (hM : MDs E h md ad sc ar) (S : mS) (t : Nat) (hR : RM sc ar S) (hI : Inv S t) (N : Nat) (hN : NB S N) (hN2 : N + 2 < 2 ^ 31) (n : Nat) (hn : n < 256) (hroom : S.q.length + 2 ≤ 40) : fh_Met l y_MD_load w_MD_load ({ frames := 5, cells := 0, slots := 0, locals := 111 }) E [.ref md, .int (nI n)] h (fun r h1 => r = some (.int (loadM S (nI n)).2) ∧ ∃ sc1 ar1, MDs E h1 md ad sc1 ar1 ∧ RM sc1 ar1 (loadM S (nI n)).1 ∧ sc1 0 = 0 ∧ KM h h1 md ad) 0 0 := by
  refine fh_ofW (cc := b_MD_load) (maxL := 5) (ret := (some .int)) (by decide) rfl (Nat.le_of_ble_eq_true rfl) ?_
  intro p e s m below meth c A ls hx hb hr hml hown hts hlocks hname hnoh hadm hA hK hZ hP hS hl
  have hG : ∀ w ∈ G, w.before _ s = true := fun w hw => hts w (List.mem_cons_of_mem _ hw)
  have hown : s.vm.findClass R_MD = some m.cls := hown
  have hl : lv_has ls 5 [(0, .ref md), (1, .int (nI n))] := hl
  have hR0 := hR
  obtain ⟨⟨a1, a2, a3, a4, a5, a6, a7, a8⟩, a9, ⟨a10, a11, a12⟩, a14, ⟨a15, a16⟩, ⟨a21, a22⟩, ⟨a24, a25⟩, a26, a27, a28⟩ := hR
  have i1 := hI.bs10
  have i2 := hI.q40
  have i3 := hI.ca6
  have km_1 : h md = some (.inr (7, [.int (sc 0), .int (sc 1), .int (sc 2), .int (sc 3), .int (sc 4), .int (sc 5), .int (sc 6), .int (sc 7), .int (sc 8), .ref (ad 9), .int (sc 10), .ref (ad 11), .ref (ad 12), .ref (ad 13), .int (sc 14), .int (sc 15), .ref (ad 16), .ref (ad 17), .ref (ad 18), .ref (ad 19), .ref (ad 20), .int (sc 21), .ref (ad 22), .ref (ad 23), .int (sc 24), .int (sc 25), .int (sc 26), .int (sc 27), .int (sc 28)])) := hM.1
  refine lv_aload_n hx hb d_MD_load_0 rfl (lv_at hl 0 rfl) ?_
  refine lv_iload_n hx hb d_MD_load_1 rfl (lv_at hl 1 rfl) ?_
  refine fh_callS (y := y_MD_isBlock) (bytes := b_MD_isBlock) (maxL := 1) (ret := (some .boolean)) (index := 131) (As := [.int (nI n)]) (rest := [.ref md]) ⟨hx, hb, hml, hown, hG⟩ (c_MD_isBlock l E h (nI n)) ⟨callB_of 1 hG (gB gm772) rfl rfl rfl (hG _ gm8) (hG _ gm770) hdy_MD_isBlock ⟨Nat.le_of_ble_eq_true rfl, Nat.le_of_ble_eq_true rfl⟩, hG _ gm771⟩ hK hZ hP hS hA rfl hl.1 rfl (Nat.le_of_ble_eq_true rfl) d_MD_load_2 ⟨Nat.le_of_ble_eq_true rfl, Nat.le_of_ble_eq_true rfl⟩ (fun r h1 H locs hq9 hP hS => ?_)
  obtain ⟨rfl, e9⟩ := hq9
  rw [e9] at hP
  refine W.eq (g2 := F0 m 5 ls [.int (if (nI n) < 0 ∨ (256 : Int32) ≤ (nI n) then 0 else 1), .ref md]) rfl ?_
  refine W.eq (g2 := F0 m 5 ls [.int 1, .ref md]) (by rw [if_neg (fun z => z.elim (nI_pos (by omega)) (nI_ge (b := 256) hn (by decide)))]) ?_
  refine lv_if_ne (tgt := 12) hx hb d_MD_load_5 (by decide) (fun c_2 => ?_) (fun c_2 => ?_)
  · skip
    refine lv_aload_n hx hb d_MD_load_12 rfl (lv_at hl 0 rfl) ?_
    refine fh_get hx hb hG C_MD iG_MD hown hK hP km_1 15 (by decide) gm688 rfl d_MD_load_13 ?_
    rw [a15]
    refine lv_iconst (v := 2) hx hb d_MD_load_16 (by decide) ?_
    refine lv_iadd hx hb d_MD_load_17 ?_
    refine W.eq (g2 := F0 m 18 ls [.int (nI (S.q.length + 2)), .ref md]) (by rw [show (2 : Int32) = nI 2 from rfl, nI_add]) ?_
    refine lv_bipush (v := 40) hx hb d_MD_load_18 (by decide) ?_
    refine lv_icmp_le (tgt := 27) hx hb d_MD_load_20 (by decide) (fun c_3 => ?_) (fun c_3 => ?_)
    · skip
      refine lv_iconst (v := 0) hx hb d_MD_load_27 (by decide) ?_
      refine fh_put hx hb hG C_MD iG_MD hown hK hP hS km_1 0 (by decide) gm673 rfl (v := .int 0) rfl rfl (Nat.le_of_ble_eq_true rfl) d_MD_load_28 (fun H locs hP hS => ?_)
      obtain ⟨h_4, eh_5⟩ : ∃ z : fh_H, z = va_up h md (some (.inr (7, [.int 0, .int (sc 1), .int (sc 2), .int (sc 3), .int (sc 4), .int (sc 5), .int (sc 6), .int (sc 7), .int (sc 8), .ref (ad 9), .int (sc 10), .ref (ad 11), .ref (ad 12), .ref (ad 13), .int (sc 14), .int (sc 15), .ref (ad 16), .ref (ad 17), .ref (ad 18), .ref (ad 19), .ref (ad 20), .int (sc 21), .ref (ad 22), .ref (ad 23), .int (sc 24), .int (sc 25), .int (sc 26), .int (sc 27), .int (sc 28)]))) := ⟨_, rfl⟩
      have hP : fh_P E.1 vwCl A h_4 H := by rw [eh_5]; exact hP
      obtain ⟨sc_6, es_7⟩ : ∃ z : Nat → Int32, z = upd sc 0 (0) := ⟨_, rfl⟩
      have m_8 : MDs E h_4 md ad sc_6 ar := by rw [es_7]; exact hM.setS (by rw [eh_5]; rfl)
      have K_9 : KM h h_4 md ad := (KM.rfl).trans (KM.upS eh_5)
      have km_10 : h_4 md = some (.inr (7, [.int (sc_6 0), .int (sc_6 1), .int (sc_6 2), .int (sc_6 3), .int (sc_6 4), .int (sc_6 5), .int (sc_6 6), .int (sc_6 7), .int (sc_6 8), .ref (ad 9), .int (sc_6 10), .ref (ad 11), .ref (ad 12), .ref (ad 13), .int (sc_6 14), .int (sc_6 15), .ref (ad 16), .ref (ad 17), .ref (ad 18), .ref (ad 19), .ref (ad 20), .int (sc_6 21), .ref (ad 22), .ref (ad 23), .int (sc_6 24), .int (sc_6 25), .int (sc_6 26), .int (sc_6 27), .int (sc_6 28)])) := m_8.1
      refine lv_aload_n hx hb d_MD_load_31 rfl (lv_at hl 0 rfl) ?_
      refine fh_get hx hb hG C_MD iG_MD hown hK hP km_10 0 (by decide) gm673 rfl d_MD_load_32 ?_
      rw [show sc_6 0 = 0 by rw [es_7, upd_eq]]
      have hR1 : RM sc_6 ar S := by rw [es_7]; exact hR0.code
      refine lv_if_le (tgt := 40) hx hb d_MD_load_35 (by decide) (fun c_11 => ?_) (fun c_11 => ?_)
      · skip
        refine lv_aload_n hx hb d_MD_load_40 rfl (lv_at hl 0 rfl) ?_
        refine lv_iload_n hx hb d_MD_load_41 rfl (lv_at hl 1 rfl) ?_
        refine fh_callV (C := R_MD) (y := y_MD_bufferOf) (bytes := b_MD_bufferOf) (maxL := 4) (ret := (some .int)) (index := 134) (As := [.int (nI n)]) (rest := []) ⟨hx, hb, hml, hown, hG⟩ (c_MD_bufferOf l E h_4 md ad sc_6 ar m_8 (nI n) S.bs.length (by rw [es_7, upd_ne (by decide)]; exact a10) (by omega)) (cwV 1 hG (gV gm773 gm775 gs_MD_bufferOf gm8 gm776) rfl rfl rfl ⟨rfl, hdy_MD_bufferOf⟩ ⟨Nat.le_of_ble_eq_true rfl, Nat.le_of_ble_eq_true rfl⟩) C_MD.1 km_10 hK hZ hP hS hA rfl hl.1 rfl (Nat.le_of_ble_eq_true rfl) d_MD_load_42 ⟨Nat.le_of_ble_eq_true rfl, Nat.le_of_ble_eq_true rfl⟩ (fun r h1 H locs hq9 hP hS => ?_)
        obtain ⟨rfl, e9⟩ := hq9
        rw [e9] at hP
        refine W.eq (g2 := F0 m 45 ls [.int (lastI (ar 11) (nI n) S.bs.length)]) rfl ?_
        rcases lastI_bf (S := S) (b := nI n) a11 hI.bsnd with ⟨hb9, e9⟩ | ⟨j, c9, hj, hc9, hb9, e9⟩
        · skip
          refine W.eq (g2 := F0 m 45 ls [.int (-1)]) (by rw [e9]) ?_
          refine lv_istore_n (lv' := [(2, .int (-1)), (0, .ref md), (1, .int (nI n))]) hx hb d_MD_load_45 rfl hl (by decide) rfl (fun ls hl => ?_)
          refine lv_iload_n hx hb d_MD_load_46 rfl (lv_at hl 0 rfl) ?_
          refine lv_if_lt (tgt := 90) hx hb d_MD_load_47 (by decide) (fun c_12 => ?_) (fun c_12 => ?_)
          · skip
            refine lv_aload_n hx hb d_MD_load_90 rfl (lv_at hl 1 rfl) ?_
            refine lv_dup hx hb d_MD_load_91 rfl ?_
            refine fh_get hx hb hG C_MD iG_MD hown hK hP km_10 4 (by decide) gm677 rfl d_MD_load_92 ?_
            refine lv_iconst (v := 1) hx hb d_MD_load_95 (by decide) ?_
            refine lv_iadd hx hb d_MD_load_96 ?_
            refine fh_put hx hb hG C_MD iG_MD hown hK hP hS km_10 4 (by decide) gm677 rfl (v := .int (((sc_6 4)) + 1)) rfl rfl (Nat.le_of_ble_eq_true rfl) d_MD_load_97 (fun H locs hP hS => ?_)
            obtain ⟨h_13, eh_14⟩ : ∃ z : fh_H, z = va_up h_4 md (some (.inr (7, [.int (sc_6 0), .int (sc_6 1), .int (sc_6 2), .int (sc_6 3), .int (((sc_6 4)) + 1), .int (sc_6 5), .int (sc_6 6), .int (sc_6 7), .int (sc_6 8), .ref (ad 9), .int (sc_6 10), .ref (ad 11), .ref (ad 12), .ref (ad 13), .int (sc_6 14), .int (sc_6 15), .ref (ad 16), .ref (ad 17), .ref (ad 18), .ref (ad 19), .ref (ad 20), .int (sc_6 21), .ref (ad 22), .ref (ad 23), .int (sc_6 24), .int (sc_6 25), .int (sc_6 26), .int (sc_6 27), .int (sc_6 28)]))) := ⟨_, rfl⟩
            have hP : fh_P E.1 vwCl A h_13 H := by rw [eh_14]; exact hP
            obtain ⟨sc_15, es_16⟩ : ∃ z : Nat → Int32, z = upd sc_6 4 ((((sc_6 4)) + 1)) := ⟨_, rfl⟩
            have m_17 : MDs E h_13 md ad sc_15 ar := by rw [es_16]; exact m_8.setS (by rw [eh_14]; rfl)
            have K_18 : KM h h_13 md ad := (K_9).trans (KM.upS eh_14)
            have km_19 : h_13 md = some (.inr (7, [.int (sc_15 0), .int (sc_15 1), .int (sc_15 2), .int (sc_15 3), .int (sc_15 4), .int (sc_15 5), .int (sc_15 6), .int (sc_15 7), .int (sc_15 8), .ref (ad 9), .int (sc_15 10), .ref (ad 11), .ref (ad 12), .ref (ad 13), .int (sc_15 14), .int (sc_15 15), .ref (ad 16), .ref (ad 17), .ref (ad 18), .ref (ad 19), .ref (ad 20), .int (sc_15 21), .ref (ad 22), .ref (ad 23), .int (sc_15 24), .int (sc_15 25), .int (sc_15 26), .int (sc_15 27), .int (sc_15 28)])) := m_17.1
            have hR2 : RM sc_15 ar (misM S) := by rw [es_16]; exact hR1.mis
            have c0 : sc_15 0 = 0 := by rw [es_16, upd_ne (by decide), es_7, upd_eq]
            refine lv_aload_n hx hb d_MD_load_100 rfl (lv_at hl 1 rfl) ?_
            obtain ⟨hIr, hbl⟩ := Inv.room (S := misM S) (t := t) hI (show S.q.length < 40 by omega)
            obtain ⟨N2, hN9, hNr, hql⟩ := NB.room (S := misM S) (N := N) hN
            have hql : (roomM (misM S)).q.length ≤ S.q.length + 1 := hql
            refine fh_callV (C := R_MD) (y := y_MD_makeRoom) (bytes := b_MD_makeRoom) (maxL := 4) (ret := none) (index := 147) (As := []) (rest := []) ⟨hx, hb, hml, hown, hG⟩ (c_MD_makeRoom l E h_13 md ad sc_15 ar m_17 (misM S) t hR2 hI N hN (by omega) (show S.q.length < 40 by omega)) (cwV 0 hG (gV gm785 gm787 gs_MD_makeRoom gm8 gm788) rfl rfl rfl ⟨rfl, hdy_MD_makeRoom⟩ ⟨Nat.le_of_ble_eq_true rfl, Nat.le_of_ble_eq_true rfl⟩) C_MD.1 km_19 hK hZ hP hS hA rfl hl.1 rfl (Nat.le_of_ble_eq_true rfl) d_MD_load_101 ⟨Nat.le_of_ble_eq_true rfl, Nat.le_of_ble_eq_true rfl⟩ (fun r h_20 H locs hq9 hP hS => ?_)
            obtain ⟨rfl, sc_21, ar_22, m_23, R_24, c_26, K_25⟩ := hq9
            have K_29 : KM h h_20 md ad := (K_18).trans K_25
            refine W.eq (g2 := F0 m 104 ls []) rfl ?_
            have km_30 : h_20 md = some (.inr (7, [.int (sc_21 0), .int (sc_21 1), .int (sc_21 2), .int (sc_21 3), .int (sc_21 4), .int (sc_21 5), .int (sc_21 6), .int (sc_21 7), .int (sc_21 8), .ref (ad 9), .int (sc_21 10), .ref (ad 11), .ref (ad 12), .ref (ad 13), .int (sc_21 14), .int (sc_21 15), .ref (ad 16), .ref (ad 17), .ref (ad 18), .ref (ad 19), .ref (ad 20), .int (sc_21 21), .ref (ad 22), .ref (ad 23), .int (sc_21 24), .int (sc_21 25), .int (sc_21 26), .int (sc_21 27), .int (sc_21 28)])) := m_23.1
            obtain ⟨S1, eS1⟩ : ∃ z, z = roomM (misM S) := ⟨_, rfl⟩
            rw [← eS1] at R_24 hIr hbl hNr hql
            refine lv_aload_n hx hb d_MD_load_104 rfl (lv_at hl 1 rfl) ?_
            refine fh_get hx hb hG C_MD iG_MD hown hK hP km_30 14 (by decide) gm687 rfl d_MD_load_105 ?_
            rw [R_24.2.2.2.1]
            refine lv_istore_n (lv' := [(3, .int (S1.nn)), (2, .int (-1)), (0, .ref md), (1, .int (nI n))]) hx hb d_MD_load_108 rfl hl (by decide) rfl (fun ls hl => ?_)
            refine lv_aload_n hx hb d_MD_load_109 rfl (lv_at hl 2 rfl) ?_
            refine lv_iconst (v := 0) hx hb d_MD_load_110 (by decide) ?_
            refine lv_iload_n hx hb d_MD_load_111 rfl (lv_at hl 3 rfl) ?_
            refine lv_iconst (v := 0) hx hb d_MD_load_112 (by decide) ?_
            refine fh_callV (C := R_MD) (y := y_MD_ask) (bytes := b_MD_ask) (maxL := 6) (ret := none) (index := 65) (As := [.int 0, .int (nI n), .int 0]) (rest := []) ⟨hx, hb, hml, hown, hG⟩ (c_MD_ask l E h_20 md ad sc_21 ar_22 m_23 S1 t R_24 hIr N2 hNr (by omega) (by omega) 0 (nI n) 0 (fun _ => rfl)) (cwV 3 hG (gV gm789 gm791 gs_MD_ask gm8 gm792) rfl rfl rfl ⟨rfl, hdy_MD_ask⟩ ⟨Nat.le_of_ble_eq_true rfl, Nat.le_of_ble_eq_true rfl⟩) C_MD.1 km_30 hK hZ hP hS hA rfl hl.1 rfl (Nat.le_of_ble_eq_true rfl) d_MD_load_113 ⟨Nat.le_of_ble_eq_true rfl, Nat.le_of_ble_eq_true rfl⟩ (fun r h_31 H locs hq9 hP hS => ?_)
            obtain ⟨rfl, sc_32, ar_33, m_34, R_35, c_37, K_36⟩ := hq9
            have K_40 : KM h h_31 md ad := (K_29).trans K_36
            refine W.eq (g2 := F0 m 116 ls []) rfl ?_
            have km_41 : h_31 md = some (.inr (7, [.int (sc_32 0), .int (sc_32 1), .int (sc_32 2), .int (sc_32 3), .int (sc_32 4), .int (sc_32 5), .int (sc_32 6), .int (sc_32 7), .int (sc_32 8), .ref (ad 9), .int (sc_32 10), .ref (ad 11), .ref (ad 12), .ref (ad 13), .int (sc_32 14), .int (sc_32 15), .ref (ad 16), .ref (ad 17), .ref (ad 18), .ref (ad 19), .ref (ad 20), .int (sc_32 21), .ref (ad 22), .ref (ad 23), .int (sc_32 24), .int (sc_32 25), .int (sc_32 26), .int (sc_32 27), .int (sc_32 28)])) := m_34.1
            have eA : askM S1 0 (nI n) 0 = addM S1 0 (nI n) 0 := if_neg (by decide)
            rw [eA] at R_35
            have hIa : Inv (addM S1 0 (nI n) 0) t := hIr.add (by omega) ⟨Or.inl rfl, fun _ => ⟨n, hn, rfl⟩⟩
            have eM : loadM S (nI n) = (putM (ldM 41 S1.nn (addM S1 0 (nI n) 0)).1 (nI n) (ldM 41 S1.nn (addM S1 0 (nI n) 0)).2 0, (ldM 41 S1.nn (addM S1 0 (nI n) 0)).2) := by unfold loadM; rw [hb9]; simp only []; rw [← eS1]
            have hnb : S1.bs.find? (fun c => c.1 == nI n) = none := by
              have z : S.bs.find? (fun c => c.1 == nI n) = none := hb9
              rw [eS1]
              exact room_nb (S := misM S) z
            refine lv_iconst (v := 0) hx hb d_MD_load_116 (by decide) ?_
            refine lv_istore (lv' := [(4, .int 0), (3, .int (S1.nn)), (2, .int (-1)), (0, .ref md), (1, .int (nI n))]) hx hb d_MD_load_117 hl (by decide) rfl (fun ls hl => ?_)
            have hl : lv_has ls 5 [(4, .int 0), (3, .int (S1.nn)), (2, .int (-1)), (0, .ref md), (1, .int (nI n))] := hl
            have loop : ∀ (f : Nat) (T : mS) (tt : Nat) (sc' : Nat → Int32) (ar' : Nat → Nat → Int32) (h' : fh_H) (H : Heap) (locs : List Loc) (ls : Array Slot), cnt T ≤ f → lv_has ls 5 [(4, .int 0), (3, .int (S1.nn)), (2, .int (-1)), (0, .ref md), (1, .int (nI n))] → fh_P E.1 vwCl A h' H → va_S A s.heap H locs → MDs E h' md ad sc' ar' → RM sc' ar' T → Inv T tt → WR S1.nn T → T.bs = S1.bs → sc' 0 = 0 → ldM f S1.nn T = ldM 41 S1.nn (addM S1 0 (nI n) 0) → KM h h' md ad → W p l e ({ frames := 5, cells := 0, slots := 0, locals := 111 }) s m ([.ref md, .int (nI n)] : List Value).toArray below meth c H locs 0 0 (MQ below (fh_Post E (fun r h1 => r = some (.int (loadM S (nI n)).2) ∧ ∃ sc1 ar1, MDs E h1 md ad sc1 ar1 ∧ RM sc1 ar1 (loadM S (nI n)).1 ∧ sc1 0 = 0 ∧ KM h h1 md ad) A) ([.ref md, .int (nI n)] : List Value).toArray s 0 0 A) (F0 m 119 ls []) := by
              intro f
              induction f with
              | zero =>
                intro T tt sc' ar' h' H locs ls hcn hl hP hS hM' hRT hIT hW hbT h0 hld K'
                obtain ⟨z1, z2⟩ := cnt_0 (show cnt T = 0 by omega)
                exact hW.cnt.elim (fun w => absurd z1 w) (fun w => absurd z2 w)
              | succ f ih =>
                intro T tt sc' ar' h' H locs ls hcn hl hP hS hM' hRT hIT hW hbT h0 hld K'
                have km_42 : h' md = some (.inr (7, [.int (sc' 0), .int (sc' 1), .int (sc' 2), .int (sc' 3), .int (sc' 4), .int (sc' 5), .int (sc' 6), .int (sc' 7), .int (sc' 8), .ref (ad 9), .int (sc' 10), .ref (ad 11), .ref (ad 12), .ref (ad 13), .int (sc' 14), .int (sc' 15), .ref (ad 16), .ref (ad 17), .ref (ad 18), .ref (ad 19), .ref (ad 20), .int (sc' 21), .ref (ad 22), .ref (ad 23), .int (sc' 24), .int (sc' 25), .int (sc' 26), .int (sc' 27), .int (sc' 28)])) := hM'.1
                refine lv_iload hx hb d_MD_load_119 (lv_at hl 0 rfl) ?_
                refine lv_if_ne (tgt := 160) hx hb d_MD_load_121 (by decide) (fun c_43 => ?_) (fun c_43 => ?_)
                · skip
                  exact absurd rfl c_43
                · skip
                  refine lv_aload_n hx hb d_MD_load_124 rfl (lv_at hl 3 rfl) ?_
                  refine fh_get hx hb hG C_MD iG_MD hown hK hP km_42 26 (by decide) gm699 rfl d_MD_load_125 ?_
                  have hwT := hW.bg hIT
                  obtain ⟨hIb, hcb, hnb9⟩ := hIT.bg
                  obtain ⟨emf, eca⟩ := bgM_mf T
                  cases hsv : T.sv with
                  | some r8 =>
                    rw [(hRT.2.2.2.2.2.2.2.2.1 r8 hsv).1]
                    refine lv_if_ne (tgt := 135) hx hb d_MD_load_128 (by decide) (fun c_44 => ?_) (fun c_44 => ?_)
                    · skip
                      have eb8 := bgM_s hsv
                      have hr8 : (bgM T).sv = some r8 := by rw [eb8]; exact hsv
                      have hRb : RM sc' ar' (bgM T) := by rw [eb8]; exact hRT
                      have C0 : sc' 0 = 0 := h0
                      refine lv_aload_n hx hb d_MD_load_135 rfl (lv_at hl 3 rfl) ?_
                      refine fh_callV (C := R_MD) (y := y_MD_endOne) (bytes := b_MD_endOne) (maxL := 2) (ret := none) (index := 153) (As := []) (rest := []) ⟨hx, hb, hml, hown, hG⟩ (c_MD_endOne l E h' md ad sc' ar' hM' (bgM T) tt hRb hIb r8 hr8) (cwV 0 hG (gV gm825 gm827 gs_MD_endOne gm8 gm828) rfl rfl rfl ⟨rfl, hdy_MD_endOne⟩ ⟨Nat.le_of_ble_eq_true rfl, Nat.le_of_ble_eq_true rfl⟩) C_MD.1 km_42 hK hZ hP hS hA rfl hl.1 rfl (Nat.le_of_ble_eq_true rfl) d_MD_load_136 ⟨Nat.le_of_ble_eq_true rfl, Nat.le_of_ble_eq_true rfl⟩ (fun r h_45 H locs hq9 hP hS => ?_)
                      obtain ⟨rfl, sc_46, ar_47, m_48, R_49, c_51, a_52, b_53, K_50⟩ := hq9
                      have K_54 : KM h h_45 md ad := (K').trans K_50
                      refine W.eq (g2 := F0 m 139 ls []) rfl ?_
                      have km_55 : h_45 md = some (.inr (7, [.int (sc_46 0), .int (sc_46 1), .int (sc_46 2), .int (sc_46 3), .int (sc_46 4), .int (sc_46 5), .int (sc_46 6), .int (sc_46 7), .int (sc_46 8), .ref (ad 9), .int (sc_46 10), .ref (ad 11), .ref (ad 12), .ref (ad 13), .int (sc_46 14), .int (sc_46 15), .ref (ad 16), .ref (ad 17), .ref (ad 18), .ref (ad 19), .ref (ad 20), .int (sc_46 21), .ref (ad 22), .ref (ad 23), .int (sc_46 24), .int (sc_46 25), .int (sc_46 26), .int (sc_46 27), .int (sc_46 28)])) := m_48.1
                      have ka_56 : h_45 (ad 16) = some (.inl (fh_cI E, 41, .inl (ar_47 16))) := m_48.2.1 16 rfl
                      refine lv_aload_n hx hb d_MD_load_139 rfl (lv_at hl 3 rfl) ?_
                      refine fh_get hx hb hG C_MD iG_MD hown hK hP km_55 16 (by decide) gm689 rfl d_MD_load_140 ?_
                      refine lv_bipush (v := 40) hx hb d_MD_load_143 (by decide) ?_
                      refine W.eq (g2 := F0 m 145 ls [.int (nI 40), .ref (ad 16)]) (rfl) ?_
                      refine fh_ialK hx hb hK hP 0 ka_56 rfl (k := 40) (by omega) (by decide) d_MD_load_145 ?_
                      rw [a_52]
                      refine lv_iload_n hx hb d_MD_load_146 rfl (lv_at hl 1 rfl) ?_
                      refine lv_icmp_ne (tgt := 154) hx hb d_MD_load_147 (by decide) (fun c_57 => ?_) (fun c_57 => ?_)
                      · skip
                        refine lv_iconst (v := 0) hx hb d_MD_load_154 (by decide) ?_
                        refine lv_istore (lv' := [(4, .int 0), (3, .int (S1.nn)), (2, .int (-1)), (0, .ref md), (1, .int (nI n))]) hx hb d_MD_load_155 hl (by decide) rfl (fun ls hl => ?_)
                        refine lv_goto (tgt := 119) hx hb d_MD_load_157 (by decide) ?_
                        obtain ⟨u9, hu9, -, -, -⟩ := hIb.ulu hr8
                        obtain ⟨hIe, hse, hce⟩ := hIb.end hr8 hu9
                        exact ih (nextM T) _ sc_46 ar_47 h_45 H locs ls (by show cnt (endM (bgM T)) ≤ f; omega) (lv_sub hl [0, 1, 2, 3, 4] rfl) hP hS m_48 R_49 hIe (hwT.end hr8 c_57) ((nextM_bs T).trans hbT) (c_51.trans C0) ((ldM_2 hr8 c_57).symm.trans hld) K_54
                      · skip
                        refine lv_iconst (v := 1) hx hb d_MD_load_150 (by decide) ?_
                        refine lv_goto (tgt := 155) hx hb d_MD_load_151 (by decide) ?_
                        refine lv_istore (lv' := [(4, .int 1), (3, .int (S1.nn)), (2, .int (-1)), (0, .ref md), (1, .int (nI n))]) hx hb d_MD_load_155 hl (by decide) rfl (fun ls hl => ?_)
                        refine lv_goto (tgt := 119) hx hb d_MD_load_157 (by decide) ?_
                        refine lv_iload hx hb d_MD_load_119 (lv_at hl 0 rfl) ?_
                        refine lv_if_ne (tgt := 160) hx hb d_MD_load_121 (by decide) (fun c_58 => ?_) (fun c_58 => ?_)
                        · skip
                          refine lv_aload_n hx hb d_MD_load_160 rfl (lv_at hl 3 rfl) ?_
                          refine lv_iload_n hx hb d_MD_load_161 rfl (lv_at hl 4 rfl) ?_
                          refine lv_aload_n hx hb d_MD_load_162 rfl (lv_at hl 3 rfl) ?_
                          refine fh_get hx hb hG C_MD iG_MD hown hK hP km_55 28 (by decide) gm701 rfl d_MD_load_163 ?_
                          have ev : sc_46 28 = (ldM 41 S1.nn (addM S1 0 (nI n) 0)).2 := by
                            rw [b_53 (hwT.1 r8 (by rw [hr8]; exact List.mem_cons_self) c_57), ← hld, ldM_1 hr8 c_57, emf, eca]
                          have eT : (ldM 41 S1.nn (addM S1 0 (nI n) 0)).1 = nextM T := by rw [← hld, ldM_1 hr8 c_57]
                          have eb : (nextM T).bs = S1.bs := (nextM_bs T).trans hbT
                          have e10 : sc_46 10 = nI S1.bs.length := by rw [R_49.2.2.1.1]; exact congrArg (fun z : List mC => nI z.length) eb
                          have eB : bL ar_47 S1.bs := by have z := R_49.2.2.1.2.1; rw [show (endM (bgM T)).bs = S1.bs from eb] at z; exact z
                          rw [ev]
                          refine lv_iconst (v := 0) hx hb d_MD_load_166 (by decide) ?_
                          refine fh_callV (C := R_MD) (y := y_MD_putLast) (bytes := b_MD_putLast) (maxL := 4) (ret := none) (index := 140) (As := [.int (nI n), .int ((ldM 41 S1.nn (addM S1 0 (nI n) 0)).2), .int 0]) (rest := []) ⟨hx, hb, hml, hown, hG⟩ (c_MD_putLast l E h_45 md ad sc_46 ar_47 m_48 S1.bs e10 (by omega) (nI n) (ldM 41 S1.nn (addM S1 0 (nI n) 0)).2 0 (Or.inl rfl)) (cwV 3 hG (gV gm781 gm783 gs_MD_putLast gm8 gm784) rfl rfl rfl ⟨rfl, hdy_MD_putLast⟩ ⟨Nat.le_of_ble_eq_true rfl, Nat.le_of_ble_eq_true rfl⟩) C_MD.1 km_55 hK hZ hP hS hA rfl hl.1 rfl (Nat.le_of_ble_eq_true rfl) d_MD_load_167 ⟨Nat.le_of_ble_eq_true rfl, Nat.le_of_ble_eq_true rfl⟩ (fun r h_59 H locs hq9 hP hS => ?_)
                          obtain ⟨rfl, m_62, K_64⟩ := hq9
                          have K_68 : KM h h_59 md ad := (K_54).trans K_64
                          refine W.eq (g2 := F0 m 170 ls []) rfl ?_
                          obtain ⟨sc_69, es_70⟩ : ∃ z : Nat → Int32, z = upd sc_46 10 (nI (S1.bs.length + 1)) := ⟨_, rfl⟩
                          rw [← es_70] at m_62
                          obtain ⟨ar_71, ea_72⟩ : ∃ z : Nat → Nat → Int32, z = lyB ar_47 S1.bs.length (nI n) (ldM 41 S1.nn (addM S1 0 (nI n) 0)).2 0 := ⟨_, rfl⟩
                          rw [← ea_72] at m_62
                          have km_73 : h_59 md = some (.inr (7, [.int (sc_69 0), .int (sc_69 1), .int (sc_69 2), .int (sc_69 3), .int (sc_69 4), .int (sc_69 5), .int (sc_69 6), .int (sc_69 7), .int (sc_69 8), .ref (ad 9), .int (sc_69 10), .ref (ad 11), .ref (ad 12), .ref (ad 13), .int (sc_69 14), .int (sc_69 15), .ref (ad 16), .ref (ad 17), .ref (ad 18), .ref (ad 19), .ref (ad 20), .int (sc_69 21), .ref (ad 22), .ref (ad 23), .int (sc_69 24), .int (sc_69 25), .int (sc_69 26), .int (sc_69 27), .int (sc_69 28)])) := m_62.1
                          refine lv_aload_n hx hb d_MD_load_170 rfl (lv_at hl 3 rfl) ?_
                          refine fh_get hx hb hG C_MD iG_MD hown hK hP km_73 28 (by decide) gm701 rfl d_MD_load_171 ?_
                          exact fh_iret hx hb hr hlocks (Nat.le_of_ble_eq_true rfl) (Nat.le_of_ble_eq_true rfl) hP hS ⟨by rw [eM, es_70, upd_ne (by decide), ev], sc_69, ar_71, m_62, by rw [eM, eT]; exact RM.put (S := nextM T) (bs := S1.bs) R_49 (Or.inl rfl) (by rw [eb]; exact ep_id hnb) (by rw [es_70, upd_eq]) (fun j hj => by rw [es_70, upd_ne hj]) (fun k hk => by rw [ea_72, lyB_o hk]) (by rw [ea_72]; exact bL_ly eB), by rw [es_70, upd_ne (by decide)]; exact c_51.trans C0, K_68⟩ d_MD_load_174
                        · skip
                          exact absurd c_58 (by decide)
                    · skip
                      exact absurd c_44 (by decide)
                  | none =>
                    rw [hRT.2.2.2.2.2.2.2.1 hsv]
                    refine lv_if_ne (tgt := 135) hx hb d_MD_load_128 (by decide) (fun c_74 => ?_) (fun c_74 => ?_)
                    · skip
                      exact absurd rfl c_74
                    · skip
                      have hqe : T.q ≠ [] := hW.cnt.resolve_left (fun z => z hsv)
                      obtain ⟨k8, r8, hk8, hr8, eq8, eb8⟩ := bgM_sv hIT hsv hqe
                      refine lv_aload_n hx hb d_MD_load_131 rfl (lv_at hl 3 rfl) ?_
                      refine fh_callV (C := R_MD) (y := y_MD_beginOne) (bytes := b_MD_beginOne) (maxL := 3) (ret := none) (index := 150) (As := []) (rest := []) ⟨hx, hb, hml, hown, hG⟩ (c_MD_beginOne l E h' md ad sc' ar' hM' T tt hRT hIT hsv hqe) (cwV 0 hG (gV gm793 gm795 gs_MD_beginOne gm8 gm796) rfl rfl rfl ⟨rfl, hdy_MD_beginOne⟩ ⟨Nat.le_of_ble_eq_true rfl, Nat.le_of_ble_eq_true rfl⟩) C_MD.1 km_42 hK hZ hP hS hA rfl hl.1 rfl (Nat.le_of_ble_eq_true rfl) d_MD_load_132 ⟨Nat.le_of_ble_eq_true rfl, Nat.le_of_ble_eq_true rfl⟩ (fun r h_75 H locs hq9 hP hS => ?_)
                      obtain ⟨rfl, sc_76, ar_77, m_78, R_79, c_81, K_80⟩ := hq9
                      have K_84 : KM h h_75 md ad := (K').trans K_80
                      refine W.eq (g2 := F0 m 135 ls []) rfl ?_
                      have km_85 : h_75 md = some (.inr (7, [.int (sc_76 0), .int (sc_76 1), .int (sc_76 2), .int (sc_76 3), .int (sc_76 4), .int (sc_76 5), .int (sc_76 6), .int (sc_76 7), .int (sc_76 8), .ref (ad 9), .int (sc_76 10), .ref (ad 11), .ref (ad 12), .ref (ad 13), .int (sc_76 14), .int (sc_76 15), .ref (ad 16), .ref (ad 17), .ref (ad 18), .ref (ad 19), .ref (ad 20), .int (sc_76 21), .ref (ad 22), .ref (ad 23), .int (sc_76 24), .int (sc_76 25), .int (sc_76 26), .int (sc_76 27), .int (sc_76 28)])) := m_78.1
                      rw [← eb8] at R_79
                      have C0 : sc_76 0 = 0 := c_81.trans h0
                      refine lv_aload_n hx hb d_MD_load_135 rfl (lv_at hl 3 rfl) ?_
                      refine fh_callV (C := R_MD) (y := y_MD_endOne) (bytes := b_MD_endOne) (maxL := 2) (ret := none) (index := 153) (As := []) (rest := []) ⟨hx, hb, hml, hown, hG⟩ (c_MD_endOne l E h_75 md ad sc_76 ar_77 m_78 (bgM T) tt R_79 hIb r8 hr8) (cwV 0 hG (gV gm825 gm827 gs_MD_endOne gm8 gm828) rfl rfl rfl ⟨rfl, hdy_MD_endOne⟩ ⟨Nat.le_of_ble_eq_true rfl, Nat.le_of_ble_eq_true rfl⟩) C_MD.1 km_85 hK hZ hP hS hA rfl hl.1 rfl (Nat.le_of_ble_eq_true rfl) d_MD_load_136 ⟨Nat.le_of_ble_eq_true rfl, Nat.le_of_ble_eq_true rfl⟩ (fun r h_86 H locs hq9 hP hS => ?_)
                      obtain ⟨rfl, sc_87, ar_88, m_89, R_90, c_92, a_93, b_94, K_91⟩ := hq9
                      have K_95 : KM h h_86 md ad := (K_84).trans K_91
                      refine W.eq (g2 := F0 m 139 ls []) rfl ?_
                      have km_96 : h_86 md = some (.inr (7, [.int (sc_87 0), .int (sc_87 1), .int (sc_87 2), .int (sc_87 3), .int (sc_87 4), .int (sc_87 5), .int (sc_87 6), .int (sc_87 7), .int (sc_87 8), .ref (ad 9), .int (sc_87 10), .ref (ad 11), .ref (ad 12), .ref (ad 13), .int (sc_87 14), .int (sc_87 15), .ref (ad 16), .ref (ad 17), .ref (ad 18), .ref (ad 19), .ref (ad 20), .int (sc_87 21), .ref (ad 22), .ref (ad 23), .int (sc_87 24), .int (sc_87 25), .int (sc_87 26), .int (sc_87 27), .int (sc_87 28)])) := m_89.1
                      have ka_97 : h_86 (ad 16) = some (.inl (fh_cI E, 41, .inl (ar_88 16))) := m_89.2.1 16 rfl
                      refine lv_aload_n hx hb d_MD_load_139 rfl (lv_at hl 3 rfl) ?_
                      refine fh_get hx hb hG C_MD iG_MD hown hK hP km_96 16 (by decide) gm689 rfl d_MD_load_140 ?_
                      refine lv_bipush (v := 40) hx hb d_MD_load_143 (by decide) ?_
                      refine W.eq (g2 := F0 m 145 ls [.int (nI 40), .ref (ad 16)]) (rfl) ?_
                      refine fh_ialK hx hb hK hP 0 ka_97 rfl (k := 40) (by omega) (by decide) d_MD_load_145 ?_
                      rw [a_93]
                      refine lv_iload_n hx hb d_MD_load_146 rfl (lv_at hl 1 rfl) ?_
                      refine lv_icmp_ne (tgt := 154) hx hb d_MD_load_147 (by decide) (fun c_98 => ?_) (fun c_98 => ?_)
                      · skip
                        refine lv_iconst (v := 0) hx hb d_MD_load_154 (by decide) ?_
                        refine lv_istore (lv' := [(4, .int 0), (3, .int (S1.nn)), (2, .int (-1)), (0, .ref md), (1, .int (nI n))]) hx hb d_MD_load_155 hl (by decide) rfl (fun ls hl => ?_)
                        refine lv_goto (tgt := 119) hx hb d_MD_load_157 (by decide) ?_
                        obtain ⟨u9, hu9, -, -, -⟩ := hIb.ulu hr8
                        obtain ⟨hIe, hse, hce⟩ := hIb.end hr8 hu9
                        exact ih (nextM T) _ sc_87 ar_88 h_86 H locs ls (by show cnt (endM (bgM T)) ≤ f; omega) (lv_sub hl [0, 1, 2, 3, 4] rfl) hP hS m_89 R_90 hIe (hwT.end hr8 c_98) ((nextM_bs T).trans hbT) (c_92.trans C0) ((ldM_2 hr8 c_98).symm.trans hld) K_95
                      · skip
                        refine lv_iconst (v := 1) hx hb d_MD_load_150 (by decide) ?_
                        refine lv_goto (tgt := 155) hx hb d_MD_load_151 (by decide) ?_
                        refine lv_istore (lv' := [(4, .int 1), (3, .int (S1.nn)), (2, .int (-1)), (0, .ref md), (1, .int (nI n))]) hx hb d_MD_load_155 hl (by decide) rfl (fun ls hl => ?_)
                        refine lv_goto (tgt := 119) hx hb d_MD_load_157 (by decide) ?_
                        refine lv_iload hx hb d_MD_load_119 (lv_at hl 0 rfl) ?_
                        refine lv_if_ne (tgt := 160) hx hb d_MD_load_121 (by decide) (fun c_99 => ?_) (fun c_99 => ?_)
                        · skip
                          refine lv_aload_n hx hb d_MD_load_160 rfl (lv_at hl 3 rfl) ?_
                          refine lv_iload_n hx hb d_MD_load_161 rfl (lv_at hl 4 rfl) ?_
                          refine lv_aload_n hx hb d_MD_load_162 rfl (lv_at hl 3 rfl) ?_
                          refine fh_get hx hb hG C_MD iG_MD hown hK hP km_96 28 (by decide) gm701 rfl d_MD_load_163 ?_
                          have ev : sc_87 28 = (ldM 41 S1.nn (addM S1 0 (nI n) 0)).2 := by
                            rw [b_94 (hwT.1 r8 (by rw [hr8]; exact List.mem_cons_self) c_98), ← hld, ldM_1 hr8 c_98, emf, eca]
                          have eT : (ldM 41 S1.nn (addM S1 0 (nI n) 0)).1 = nextM T := by rw [← hld, ldM_1 hr8 c_98]
                          have eb : (nextM T).bs = S1.bs := (nextM_bs T).trans hbT
                          have e10 : sc_87 10 = nI S1.bs.length := by rw [R_90.2.2.1.1]; exact congrArg (fun z : List mC => nI z.length) eb
                          have eB : bL ar_88 S1.bs := by have z := R_90.2.2.1.2.1; rw [show (endM (bgM T)).bs = S1.bs from eb] at z; exact z
                          rw [ev]
                          refine lv_iconst (v := 0) hx hb d_MD_load_166 (by decide) ?_
                          refine fh_callV (C := R_MD) (y := y_MD_putLast) (bytes := b_MD_putLast) (maxL := 4) (ret := none) (index := 140) (As := [.int (nI n), .int ((ldM 41 S1.nn (addM S1 0 (nI n) 0)).2), .int 0]) (rest := []) ⟨hx, hb, hml, hown, hG⟩ (c_MD_putLast l E h_86 md ad sc_87 ar_88 m_89 S1.bs e10 (by omega) (nI n) (ldM 41 S1.nn (addM S1 0 (nI n) 0)).2 0 (Or.inl rfl)) (cwV 3 hG (gV gm781 gm783 gs_MD_putLast gm8 gm784) rfl rfl rfl ⟨rfl, hdy_MD_putLast⟩ ⟨Nat.le_of_ble_eq_true rfl, Nat.le_of_ble_eq_true rfl⟩) C_MD.1 km_96 hK hZ hP hS hA rfl hl.1 rfl (Nat.le_of_ble_eq_true rfl) d_MD_load_167 ⟨Nat.le_of_ble_eq_true rfl, Nat.le_of_ble_eq_true rfl⟩ (fun r h_100 H locs hq9 hP hS => ?_)
                          obtain ⟨rfl, m_103, K_105⟩ := hq9
                          have K_109 : KM h h_100 md ad := (K_95).trans K_105
                          refine W.eq (g2 := F0 m 170 ls []) rfl ?_
                          obtain ⟨sc_110, es_111⟩ : ∃ z : Nat → Int32, z = upd sc_87 10 (nI (S1.bs.length + 1)) := ⟨_, rfl⟩
                          rw [← es_111] at m_103
                          obtain ⟨ar_112, ea_113⟩ : ∃ z : Nat → Nat → Int32, z = lyB ar_88 S1.bs.length (nI n) (ldM 41 S1.nn (addM S1 0 (nI n) 0)).2 0 := ⟨_, rfl⟩
                          rw [← ea_113] at m_103
                          have km_114 : h_100 md = some (.inr (7, [.int (sc_110 0), .int (sc_110 1), .int (sc_110 2), .int (sc_110 3), .int (sc_110 4), .int (sc_110 5), .int (sc_110 6), .int (sc_110 7), .int (sc_110 8), .ref (ad 9), .int (sc_110 10), .ref (ad 11), .ref (ad 12), .ref (ad 13), .int (sc_110 14), .int (sc_110 15), .ref (ad 16), .ref (ad 17), .ref (ad 18), .ref (ad 19), .ref (ad 20), .int (sc_110 21), .ref (ad 22), .ref (ad 23), .int (sc_110 24), .int (sc_110 25), .int (sc_110 26), .int (sc_110 27), .int (sc_110 28)])) := m_103.1
                          refine lv_aload_n hx hb d_MD_load_170 rfl (lv_at hl 3 rfl) ?_
                          refine fh_get hx hb hG C_MD iG_MD hown hK hP km_114 28 (by decide) gm701 rfl d_MD_load_171 ?_
                          exact fh_iret hx hb hr hlocks (Nat.le_of_ble_eq_true rfl) (Nat.le_of_ble_eq_true rfl) hP hS ⟨by rw [eM, es_111, upd_ne (by decide), ev], sc_110, ar_112, m_103, by rw [eM, eT]; exact RM.put (S := nextM T) (bs := S1.bs) R_90 (Or.inl rfl) (by rw [eb]; exact ep_id hnb) (by rw [es_111, upd_eq]) (fun j hj => by rw [es_111, upd_ne hj]) (fun k hk => by rw [ea_113, lyB_o hk]) (by rw [ea_113]; exact bL_ly eB), by rw [es_111, upd_ne (by decide)]; exact c_92.trans C0, K_109⟩ d_MD_load_174
                        · skip
                          exact absurd c_99 (by decide)
            exact loop 41 (addM S1 0 (nI n) 0) t _ _ _ _ _ ls (cnt_41 hIa) hl hP hS m_34 R_35 hIa (WR.add hNr (by omega)) rfl (c_37.trans (c_26.trans c0)) rfl K_40
          · skip
            exact absurd (show (-1 : Int32) < 0 by decide) c_12
        · skip
          refine W.eq (g2 := F0 m 45 ls [.int (nI j)]) (by rw [e9]) ?_
          refine lv_istore_n (lv' := [(2, .int (nI j)), (0, .ref md), (1, .int (nI n))]) hx hb d_MD_load_45 rfl hl (by decide) rfl (fun ls hl => ?_)
          refine lv_iload_n hx hb d_MD_load_46 rfl (lv_at hl 0 rfl) ?_
          have hjl := (List.getElem?_eq_some_iff.mp hj).1
          obtain ⟨g1, g2, g3⟩ := a11 j c9 hj
          refine lv_if_lt (tgt := 90) hx hb d_MD_load_47 (by decide) (fun c_115 => ?_) (fun c_115 => ?_)
          · skip
            exact absurd c_115 (nI_pos (by omega))
          · skip
            have km_116 : h_4 md = some (.inr (7, [.int (sc_6 0), .int (sc_6 1), .int (sc_6 2), .int (sc_6 3), .int (sc_6 4), .int (sc_6 5), .int (sc_6 6), .int (sc_6 7), .int (sc_6 8), .ref (ad 9), .int (sc_6 10), .ref (ad 11), .ref (ad 12), .ref (ad 13), .int (sc_6 14), .int (sc_6 15), .ref (ad 16), .ref (ad 17), .ref (ad 18), .ref (ad 19), .ref (ad 20), .int (sc_6 21), .ref (ad 22), .ref (ad 23), .int (sc_6 24), .int (sc_6 25), .int (sc_6 26), .int (sc_6 27), .int (sc_6 28)])) := m_8.1
            have ka_117 : h_4 (ad 12) = some (.inl (fh_cI E, 11, .inl (ar 12))) := m_8.2.1 12 rfl
            have ka_118 : h_4 (ad 13) = some (.inl (fh_cZ E, 11, .inl (ar 13))) := m_8.2.1 13 rfl
            refine lv_aload_n hx hb d_MD_load_50 rfl (lv_at hl 1 rfl) ?_
            refine fh_get hx hb hG C_MD iG_MD hown hK hP km_116 12 (by decide) gm685 rfl d_MD_load_51 ?_
            refine lv_iload_n hx hb d_MD_load_54 rfl (lv_at hl 0 rfl) ?_
            refine fh_ialK hx hb hK hP 0 ka_117 rfl (k := j) (by omega) (by decide) d_MD_load_55 ?_
            rw [g2]
            refine lv_istore_n (lv' := [(3, .int (c9.2.1)), (2, .int (nI j)), (0, .ref md), (1, .int (nI n))]) hx hb d_MD_load_56 rfl hl (by decide) rfl (fun ls hl => ?_)
            refine lv_aload_n hx hb d_MD_load_57 rfl (lv_at hl 2 rfl) ?_
            refine fh_get hx hb hG C_MD iG_MD hown hK hP km_116 13 (by decide) gm686 rfl d_MD_load_58 ?_
            refine lv_iload_n hx hb d_MD_load_61 rfl (lv_at hl 1 rfl) ?_
            refine fh_zalK hx hb hK hP 3 ka_118 rfl (k := j) (by omega) (by decide) d_MD_load_62 ?_
            rw [g3]
            refine lv_istore (lv' := [(4, .int (c9.2.2)), (3, .int (c9.2.1)), (2, .int (nI j)), (0, .ref md), (1, .int (nI n))]) hx hb d_MD_load_63 hl (by decide) rfl (fun ls hl => ?_)
            refine lv_aload_n hx hb d_MD_load_65 rfl (lv_at hl 3 rfl) ?_
            refine lv_dup hx hb d_MD_load_66 rfl ?_
            refine fh_get hx hb hG C_MD iG_MD hown hK hP km_116 3 (by decide) gm676 rfl d_MD_load_67 ?_
            refine lv_iconst (v := 1) hx hb d_MD_load_70 (by decide) ?_
            refine lv_iadd hx hb d_MD_load_71 ?_
            refine fh_put hx hb hG C_MD iG_MD hown hK hP hS km_116 3 (by decide) gm676 rfl (v := .int (((sc_6 3)) + 1)) rfl rfl (Nat.le_of_ble_eq_true rfl) d_MD_load_72 (fun H locs hP hS => ?_)
            obtain ⟨h_119, eh_120⟩ : ∃ z : fh_H, z = va_up h_4 md (some (.inr (7, [.int (sc_6 0), .int (sc_6 1), .int (sc_6 2), .int (((sc_6 3)) + 1), .int (sc_6 4), .int (sc_6 5), .int (sc_6 6), .int (sc_6 7), .int (sc_6 8), .ref (ad 9), .int (sc_6 10), .ref (ad 11), .ref (ad 12), .ref (ad 13), .int (sc_6 14), .int (sc_6 15), .ref (ad 16), .ref (ad 17), .ref (ad 18), .ref (ad 19), .ref (ad 20), .int (sc_6 21), .ref (ad 22), .ref (ad 23), .int (sc_6 24), .int (sc_6 25), .int (sc_6 26), .int (sc_6 27), .int (sc_6 28)]))) := ⟨_, rfl⟩
            have hP : fh_P E.1 vwCl A h_119 H := by rw [eh_120]; exact hP
            obtain ⟨sc_121, es_122⟩ : ∃ z : Nat → Int32, z = upd sc_6 3 ((((sc_6 3)) + 1)) := ⟨_, rfl⟩
            have m_123 : MDs E h_119 md ad sc_121 ar := by rw [es_122]; exact m_8.setS (by rw [eh_120]; rfl)
            have K_124 : KM h h_119 md ad := (K_9).trans (KM.upS eh_120)
            have km_125 : h_119 md = some (.inr (7, [.int (sc_121 0), .int (sc_121 1), .int (sc_121 2), .int (sc_121 3), .int (sc_121 4), .int (sc_121 5), .int (sc_121 6), .int (sc_121 7), .int (sc_121 8), .ref (ad 9), .int (sc_121 10), .ref (ad 11), .ref (ad 12), .ref (ad 13), .int (sc_121 14), .int (sc_121 15), .ref (ad 16), .ref (ad 17), .ref (ad 18), .ref (ad 19), .ref (ad 20), .int (sc_121 21), .ref (ad 22), .ref (ad 23), .int (sc_121 24), .int (sc_121 25), .int (sc_121 26), .int (sc_121 27), .int (sc_121 28)])) := m_123.1
            have ka_126 : h_119 (ad 12) = some (.inl (fh_cI E, 11, .inl (ar 12))) := m_123.2.1 12 rfl
            have ka_127 : h_119 (ad 13) = some (.inl (fh_cZ E, 11, .inl (ar 13))) := m_123.2.1 13 rfl
            have hR2 : RM sc_121 ar (hitM S) := by rw [es_122]; exact hR1.hit
            refine lv_aload_n hx hb d_MD_load_75 rfl (lv_at hl 3 rfl) ?_
            refine lv_iload_n hx hb d_MD_load_76 rfl (lv_at hl 2 rfl) ?_
            refine fh_callV (C := R_MD) (y := y_MD_closeUp) (bytes := b_MD_closeUp) (maxL := 3) (ret := none) (index := 58) (As := [.int (nI j)]) (rest := []) ⟨hx, hb, hml, hown, hG⟩ (c_MD_closeUp l E h_119 md ad sc_121 ar m_123 S.bs a11 a12 (by rw [es_122, upd_ne (by decide), es_7, upd_ne (by decide)]; exact a10) (by omega) j hjl) (cwV 1 hG (gV gm777 gm779 gs_MD_closeUp gm8 gm780) rfl rfl rfl ⟨rfl, hdy_MD_closeUp⟩ ⟨Nat.le_of_ble_eq_true rfl, Nat.le_of_ble_eq_true rfl⟩) C_MD.1 km_125 hK hZ hP hS hA rfl hl.1 rfl (Nat.le_of_ble_eq_true rfl) d_MD_load_77 ⟨Nat.le_of_ble_eq_true rfl, Nat.le_of_ble_eq_true rfl⟩ (fun r h_128 H locs hq9 hP hS => ?_)
            obtain ⟨rfl, ar_130, m_131, a_135, b_136, K_133⟩ := hq9
            have K_137 : KM h h_128 md ad := (K_124).trans K_133
            refine W.eq (g2 := F0 m 80 ls []) rfl ?_
            obtain ⟨sc_138, es_139⟩ : ∃ z : Nat → Int32, z = upd sc_121 10 (nI (S.bs.length - 1)) := ⟨_, rfl⟩
            rw [← es_139] at m_131
            have km_140 : h_128 md = some (.inr (7, [.int (sc_138 0), .int (sc_138 1), .int (sc_138 2), .int (sc_138 3), .int (sc_138 4), .int (sc_138 5), .int (sc_138 6), .int (sc_138 7), .int (sc_138 8), .ref (ad 9), .int (sc_138 10), .ref (ad 11), .ref (ad 12), .ref (ad 13), .int (sc_138 14), .int (sc_138 15), .ref (ad 16), .ref (ad 17), .ref (ad 18), .ref (ad 19), .ref (ad 20), .int (sc_138 21), .ref (ad 22), .ref (ad 23), .int (sc_138 24), .int (sc_138 25), .int (sc_138 26), .int (sc_138 27), .int (sc_138 28)])) := m_131.1
            refine lv_aload_n hx hb d_MD_load_80 rfl (lv_at hl 3 rfl) ?_
            refine lv_iload_n hx hb d_MD_load_81 rfl (lv_at hl 4 rfl) ?_
            refine lv_iload_n hx hb d_MD_load_82 rfl (lv_at hl 1 rfl) ?_
            refine lv_iload hx hb d_MD_load_83 (lv_at hl 0 rfl) ?_
            have hel : (S.bs.eraseIdx j).length = S.bs.length - 1 := by rw [List.length_eraseIdx, if_pos hjl]
            refine fh_callV (C := R_MD) (y := y_MD_putLast) (bytes := b_MD_putLast) (maxL := 4) (ret := none) (index := 140) (As := [.int (nI n), .int (c9.2.1), .int (c9.2.2)]) (rest := []) ⟨hx, hb, hml, hown, hG⟩ (c_MD_putLast l E h_128 md ad sc_138 ar_130 m_131 (S.bs.eraseIdx j) (by rw [es_139, upd_eq, hel]) (by omega) (nI n) c9.2.1 c9.2.2 (a12 c9 (List.mem_of_getElem? hj))) (cwV 3 hG (gV gm781 gm783 gs_MD_putLast gm8 gm784) rfl rfl rfl ⟨rfl, hdy_MD_putLast⟩ ⟨Nat.le_of_ble_eq_true rfl, Nat.le_of_ble_eq_true rfl⟩) C_MD.1 km_140 hK hZ hP hS hA rfl hl.1 rfl (Nat.le_of_ble_eq_true rfl) d_MD_load_85 ⟨Nat.le_of_ble_eq_true rfl, Nat.le_of_ble_eq_true rfl⟩ (fun r h_141 H locs hq9 hP hS => ?_)
            obtain ⟨rfl, m_144, K_146⟩ := hq9
            have K_150 : KM h h_141 md ad := (K_137).trans K_146
            refine W.eq (g2 := F0 m 88 ls []) rfl ?_
            obtain ⟨sc_151, es_152⟩ : ∃ z : Nat → Int32, z = upd sc_138 10 (nI ((S.bs.eraseIdx j).length + 1)) := ⟨_, rfl⟩
            rw [← es_152] at m_144
            obtain ⟨ar_153, ea_154⟩ : ∃ z : Nat → Nat → Int32, z = lyB ar_130 (S.bs.eraseIdx j).length (nI n) c9.2.1 c9.2.2 := ⟨_, rfl⟩
            rw [← ea_154] at m_144
            refine lv_iload_n hx hb d_MD_load_88 rfl (lv_at hl 1 rfl) ?_
            have eM : loadM S (nI n) = (putM (hitM S) (nI n) c9.2.1 c9.2.2, c9.2.1) := by unfold loadM; rw [hb9]
            exact fh_iret hx hb hr hlocks (Nat.le_of_ble_eq_true rfl) (Nat.le_of_ble_eq_true rfl) hP hS ⟨by rw [eM], sc_151, ar_153, m_144, by rw [eM]; exact hR2.put (bs := S.bs.eraseIdx j) (a12 c9 (List.mem_of_getElem? hj)) (ep_ix hI.bsnd hj hc9) (by rw [es_152, upd_eq]) (fun j hj => by rw [es_152, upd_ne hj, es_139, upd_ne hj]) (fun k hk => by rw [ea_154, lyB_o hk]; exact b_136 k hk) (by rw [ea_154]; exact bL_ly a_135), by rw [es_152, upd_ne (by decide), es_139, upd_ne (by decide), es_122, upd_ne (by decide), es_7, upd_eq], K_150⟩ d_MD_load_89
      · skip
        exact absurd (show (0 : Int32) ≤ 0 by decide) c_11
    · skip
      exact absurd (nI_le (b := 40) (by omega) (by decide)) c_3
  · skip
    exact absurd c_2 (by decide)

set_option maxHeartbeats 800000 in
set_option maxRecDepth 100000 in
theorem c_MD_save_b (l : Launch) (E : fh_E) (h : fh_H) (md : Nat) (ad : Nat → Nat) (sc : Nat → Int32) (ar : Nat → Nat → Int32) (hM : MDs E h md ad sc ar) (S : mS) (t : Nat) (hR : RM sc ar S) (hI : Inv S t) (b : Int32) (hbad : b.toInt < 0 ∨ (256 : Int) ≤ b.toInt) (v : Int32) : fh_Met l y_MD_save w_MD_save ({ frames := 2, cells := 0, slots := 0, locals := 48 }) E [.ref md, .int b, .int v] h (fun r h1 => r = some (.int 0) ∧ ∃ sc1 ar1, MDs E h1 md ad sc1 ar1 ∧ RM sc1 ar1 S ∧ sc1 0 = 1 ∧ KM h h1 md ad) 0 0 := by
  refine fh_ofW (cc := b_MD_save) (maxL := 5) (ret := (some .int)) (by decide) rfl (Nat.le_of_ble_eq_true rfl) ?_
  intro p e s m below meth c A ls hx hb hr hml hown hts hlocks hname hnoh hadm hA hK hZ hP hS hl
  have hG : ∀ w ∈ G, w.before _ s = true := fun w hw => hts w (List.mem_cons_of_mem _ hw)
  have hown : s.vm.findClass R_MD = some m.cls := hown
  have hl : lv_has ls 5 [(0, .ref md), (1, .int b), (2, .int v)] := hl
  have hR0 := hR
  obtain ⟨⟨a1, a2, a3, a4, a5, a6, a7, a8⟩, a9, ⟨a10, a11, a12⟩, a14, ⟨a15, a16⟩, ⟨a21, a22⟩, ⟨a24, a25⟩, a26, a27, a28⟩ := hR
  have i1 := hI.bs10
  have i2 := hI.q40
  have i3 := hI.ca6
  have km_1 : h md = some (.inr (7, [.int (sc 0), .int (sc 1), .int (sc 2), .int (sc 3), .int (sc 4), .int (sc 5), .int (sc 6), .int (sc 7), .int (sc 8), .ref (ad 9), .int (sc 10), .ref (ad 11), .ref (ad 12), .ref (ad 13), .int (sc 14), .int (sc 15), .ref (ad 16), .ref (ad 17), .ref (ad 18), .ref (ad 19), .ref (ad 20), .int (sc 21), .ref (ad 22), .ref (ad 23), .int (sc 24), .int (sc 25), .int (sc 26), .int (sc 27), .int (sc 28)])) := hM.1
  refine lv_aload_n hx hb d_MD_save_0 rfl (lv_at hl 0 rfl) ?_
  refine lv_iload_n hx hb d_MD_save_1 rfl (lv_at hl 1 rfl) ?_
  refine fh_callS (y := y_MD_isBlock) (bytes := b_MD_isBlock) (maxL := 1) (ret := (some .boolean)) (index := 131) (As := [.int b]) (rest := [.ref md]) ⟨hx, hb, hml, hown, hG⟩ (c_MD_isBlock l E h b) ⟨callB_of 1 hG (gB gm772) rfl rfl rfl (hG _ gm8) (hG _ gm770) hdy_MD_isBlock ⟨Nat.le_of_ble_eq_true rfl, Nat.le_of_ble_eq_true rfl⟩, hG _ gm771⟩ hK hZ hP hS hA rfl hl.1 rfl (Nat.le_of_ble_eq_true rfl) d_MD_save_2 ⟨Nat.le_of_ble_eq_true rfl, Nat.le_of_ble_eq_true rfl⟩ (fun r h1 H locs hq9 hP hS => ?_)
  obtain ⟨rfl, e9⟩ := hq9
  rw [e9] at hP
  refine W.eq (g2 := F0 m 5 ls [.int (if b < 0 ∨ (256 : Int32) ≤ b then 0 else 1), .ref md]) rfl ?_
  refine W.eq (g2 := F0 m 5 ls [.int 0, .ref md]) (by rw [if_pos (blk hbad)]) ?_
  refine lv_if_ne (tgt := 12) hx hb d_MD_save_5 (by decide) (fun c_2 => ?_) (fun c_2 => ?_)
  · skip
    exact absurd rfl c_2
  · skip
    refine lv_iconst (v := 1) hx hb d_MD_save_8 (by decide) ?_
    refine lv_goto (tgt := 28) hx hb d_MD_save_9 (by decide) ?_
    refine fh_put hx hb hG C_MD iG_MD hown hK hP hS km_1 0 (by decide) gm673 rfl (v := .int 1) rfl rfl (Nat.le_of_ble_eq_true rfl) d_MD_save_28 (fun H locs hP hS => ?_)
    obtain ⟨h_3, eh_4⟩ : ∃ z : fh_H, z = va_up h md (some (.inr (7, [.int 1, .int (sc 1), .int (sc 2), .int (sc 3), .int (sc 4), .int (sc 5), .int (sc 6), .int (sc 7), .int (sc 8), .ref (ad 9), .int (sc 10), .ref (ad 11), .ref (ad 12), .ref (ad 13), .int (sc 14), .int (sc 15), .ref (ad 16), .ref (ad 17), .ref (ad 18), .ref (ad 19), .ref (ad 20), .int (sc 21), .ref (ad 22), .ref (ad 23), .int (sc 24), .int (sc 25), .int (sc 26), .int (sc 27), .int (sc 28)]))) := ⟨_, rfl⟩
    have hP : fh_P E.1 vwCl A h_3 H := by rw [eh_4]; exact hP
    obtain ⟨sc_5, es_6⟩ : ∃ z : Nat → Int32, z = upd sc 0 (1) := ⟨_, rfl⟩
    have m_7 : MDs E h_3 md ad sc_5 ar := by rw [es_6]; exact hM.setS (by rw [eh_4]; rfl)
    have K_8 : KM h h_3 md ad := (KM.rfl).trans (KM.upS eh_4)
    have km_9 : h_3 md = some (.inr (7, [.int (sc_5 0), .int (sc_5 1), .int (sc_5 2), .int (sc_5 3), .int (sc_5 4), .int (sc_5 5), .int (sc_5 6), .int (sc_5 7), .int (sc_5 8), .ref (ad 9), .int (sc_5 10), .ref (ad 11), .ref (ad 12), .ref (ad 13), .int (sc_5 14), .int (sc_5 15), .ref (ad 16), .ref (ad 17), .ref (ad 18), .ref (ad 19), .ref (ad 20), .int (sc_5 21), .ref (ad 22), .ref (ad 23), .int (sc_5 24), .int (sc_5 25), .int (sc_5 26), .int (sc_5 27), .int (sc_5 28)])) := m_7.1
    refine lv_aload_n hx hb d_MD_save_31 rfl (lv_at hl 0 rfl) ?_
    refine fh_get hx hb hG C_MD iG_MD hown hK hP km_9 0 (by decide) gm673 rfl d_MD_save_32 ?_
    rw [show sc_5 0 = 1 by rw [es_6, upd_eq]]
    refine lv_if_le (tgt := 40) hx hb d_MD_save_35 (by decide) (fun c_10 => ?_) (fun c_10 => ?_)
    · skip
      exact absurd c_10 (by decide)
    · skip
      refine lv_iconst (v := 0) hx hb d_MD_save_38 (by decide) ?_
      exact fh_iret hx hb hr hlocks (Nat.le_of_ble_eq_true rfl) (Nat.le_of_ble_eq_true rfl) hP hS ⟨rfl, sc_5, ar, m_7, by rw [es_6]; exact hR0.code, by rw [es_6, upd_eq], K_8⟩ d_MD_save_39

set_option maxHeartbeats 800000 in
set_option maxRecDepth 100000 in
theorem c_MD_save_q (l : Launch) (E : fh_E) (h : fh_H) (md : Nat) (ad : Nat → Nat) (sc : Nat → Int32) (ar : Nat → Nat → Int32) (hM : MDs E h md ad sc ar) (S : mS) (t : Nat) (hR : RM sc ar S) (hI : Inv S t) (n : Nat) (hn : n < 256) (hbad : 40 < S.q.length + 2) (v : Int32) : fh_Met l y_MD_save w_MD_save ({ frames := 2, cells := 0, slots := 0, locals := 48 }) E [.ref md, .int (nI n), .int v] h (fun r h1 => r = some (.int 0) ∧ ∃ sc1 ar1, MDs E h1 md ad sc1 ar1 ∧ RM sc1 ar1 S ∧ sc1 0 = 2 ∧ KM h h1 md ad) 0 0 := by
  refine fh_ofW (cc := b_MD_save) (maxL := 5) (ret := (some .int)) (by decide) rfl (Nat.le_of_ble_eq_true rfl) ?_
  intro p e s m below meth c A ls hx hb hr hml hown hts hlocks hname hnoh hadm hA hK hZ hP hS hl
  have hG : ∀ w ∈ G, w.before _ s = true := fun w hw => hts w (List.mem_cons_of_mem _ hw)
  have hown : s.vm.findClass R_MD = some m.cls := hown
  have hl : lv_has ls 5 [(0, .ref md), (1, .int (nI n)), (2, .int v)] := hl
  have hR0 := hR
  obtain ⟨⟨a1, a2, a3, a4, a5, a6, a7, a8⟩, a9, ⟨a10, a11, a12⟩, a14, ⟨a15, a16⟩, ⟨a21, a22⟩, ⟨a24, a25⟩, a26, a27, a28⟩ := hR
  have i1 := hI.bs10
  have i2 := hI.q40
  have i3 := hI.ca6
  have km_1 : h md = some (.inr (7, [.int (sc 0), .int (sc 1), .int (sc 2), .int (sc 3), .int (sc 4), .int (sc 5), .int (sc 6), .int (sc 7), .int (sc 8), .ref (ad 9), .int (sc 10), .ref (ad 11), .ref (ad 12), .ref (ad 13), .int (sc 14), .int (sc 15), .ref (ad 16), .ref (ad 17), .ref (ad 18), .ref (ad 19), .ref (ad 20), .int (sc 21), .ref (ad 22), .ref (ad 23), .int (sc 24), .int (sc 25), .int (sc 26), .int (sc 27), .int (sc 28)])) := hM.1
  refine lv_aload_n hx hb d_MD_save_0 rfl (lv_at hl 0 rfl) ?_
  refine lv_iload_n hx hb d_MD_save_1 rfl (lv_at hl 1 rfl) ?_
  refine fh_callS (y := y_MD_isBlock) (bytes := b_MD_isBlock) (maxL := 1) (ret := (some .boolean)) (index := 131) (As := [.int (nI n)]) (rest := [.ref md]) ⟨hx, hb, hml, hown, hG⟩ (c_MD_isBlock l E h (nI n)) ⟨callB_of 1 hG (gB gm772) rfl rfl rfl (hG _ gm8) (hG _ gm770) hdy_MD_isBlock ⟨Nat.le_of_ble_eq_true rfl, Nat.le_of_ble_eq_true rfl⟩, hG _ gm771⟩ hK hZ hP hS hA rfl hl.1 rfl (Nat.le_of_ble_eq_true rfl) d_MD_save_2 ⟨Nat.le_of_ble_eq_true rfl, Nat.le_of_ble_eq_true rfl⟩ (fun r h1 H locs hq9 hP hS => ?_)
  obtain ⟨rfl, e9⟩ := hq9
  rw [e9] at hP
  refine W.eq (g2 := F0 m 5 ls [.int (if (nI n) < 0 ∨ (256 : Int32) ≤ (nI n) then 0 else 1), .ref md]) rfl ?_
  refine W.eq (g2 := F0 m 5 ls [.int 1, .ref md]) (by rw [if_neg (fun z => z.elim (nI_pos (by omega)) (nI_ge (b := 256) hn (by decide)))]) ?_
  refine lv_if_ne (tgt := 12) hx hb d_MD_save_5 (by decide) (fun c_2 => ?_) (fun c_2 => ?_)
  · skip
    refine lv_aload_n hx hb d_MD_save_12 rfl (lv_at hl 0 rfl) ?_
    refine fh_get hx hb hG C_MD iG_MD hown hK hP km_1 15 (by decide) gm688 rfl d_MD_save_13 ?_
    rw [a15]
    refine lv_iconst (v := 2) hx hb d_MD_save_16 (by decide) ?_
    refine lv_iadd hx hb d_MD_save_17 ?_
    refine W.eq (g2 := F0 m 18 ls [.int (nI (S.q.length + 2)), .ref md]) (by rw [show (2 : Int32) = nI 2 from rfl, nI_add]) ?_
    refine lv_bipush (v := 40) hx hb d_MD_save_18 (by decide) ?_
    refine lv_icmp_le (tgt := 27) hx hb d_MD_save_20 (by decide) (fun c_3 => ?_) (fun c_3 => ?_)
    · skip
      exact absurd c_3 (nI_ge (a := 40) (by omega) (by omega))
    · skip
      refine lv_iconst (v := 2) hx hb d_MD_save_23 (by decide) ?_
      refine lv_goto (tgt := 28) hx hb d_MD_save_24 (by decide) ?_
      refine fh_put hx hb hG C_MD iG_MD hown hK hP hS km_1 0 (by decide) gm673 rfl (v := .int 2) rfl rfl (Nat.le_of_ble_eq_true rfl) d_MD_save_28 (fun H locs hP hS => ?_)
      obtain ⟨h_4, eh_5⟩ : ∃ z : fh_H, z = va_up h md (some (.inr (7, [.int 2, .int (sc 1), .int (sc 2), .int (sc 3), .int (sc 4), .int (sc 5), .int (sc 6), .int (sc 7), .int (sc 8), .ref (ad 9), .int (sc 10), .ref (ad 11), .ref (ad 12), .ref (ad 13), .int (sc 14), .int (sc 15), .ref (ad 16), .ref (ad 17), .ref (ad 18), .ref (ad 19), .ref (ad 20), .int (sc 21), .ref (ad 22), .ref (ad 23), .int (sc 24), .int (sc 25), .int (sc 26), .int (sc 27), .int (sc 28)]))) := ⟨_, rfl⟩
      have hP : fh_P E.1 vwCl A h_4 H := by rw [eh_5]; exact hP
      obtain ⟨sc_6, es_7⟩ : ∃ z : Nat → Int32, z = upd sc 0 (2) := ⟨_, rfl⟩
      have m_8 : MDs E h_4 md ad sc_6 ar := by rw [es_7]; exact hM.setS (by rw [eh_5]; rfl)
      have K_9 : KM h h_4 md ad := (KM.rfl).trans (KM.upS eh_5)
      have km_10 : h_4 md = some (.inr (7, [.int (sc_6 0), .int (sc_6 1), .int (sc_6 2), .int (sc_6 3), .int (sc_6 4), .int (sc_6 5), .int (sc_6 6), .int (sc_6 7), .int (sc_6 8), .ref (ad 9), .int (sc_6 10), .ref (ad 11), .ref (ad 12), .ref (ad 13), .int (sc_6 14), .int (sc_6 15), .ref (ad 16), .ref (ad 17), .ref (ad 18), .ref (ad 19), .ref (ad 20), .int (sc_6 21), .ref (ad 22), .ref (ad 23), .int (sc_6 24), .int (sc_6 25), .int (sc_6 26), .int (sc_6 27), .int (sc_6 28)])) := m_8.1
      refine lv_aload_n hx hb d_MD_save_31 rfl (lv_at hl 0 rfl) ?_
      refine fh_get hx hb hG C_MD iG_MD hown hK hP km_10 0 (by decide) gm673 rfl d_MD_save_32 ?_
      rw [show sc_6 0 = 2 by rw [es_7, upd_eq]]
      refine lv_if_le (tgt := 40) hx hb d_MD_save_35 (by decide) (fun c_11 => ?_) (fun c_11 => ?_)
      · skip
        exact absurd c_11 (by decide)
      · skip
        refine lv_iconst (v := 0) hx hb d_MD_save_38 (by decide) ?_
        exact fh_iret hx hb hr hlocks (Nat.le_of_ble_eq_true rfl) (Nat.le_of_ble_eq_true rfl) hP hS ⟨rfl, sc_6, ar, m_8, by rw [es_7]; exact hR0.code, by rw [es_7, upd_eq], K_9⟩ d_MD_save_39
  · skip
    exact absurd c_2 (by decide)

set_option maxHeartbeats 800000 in
set_option maxRecDepth 100000 in
theorem c_MD_save (l : Launch) (E : fh_E) (h : fh_H) (md : Nat) (ad : Nat → Nat) (sc : Nat → Int32) (ar : Nat → Nat → Int32) (hM : MDs E h md ad sc ar) (S : mS) (t : Nat) (hR : RM sc ar S) (hI : Inv S t) (N : Nat) (hN : NB S N) (hN2 : N + 2 < 2 ^ 31) (n : Nat) (hn : n < 256) (hroom : S.q.length + 2 ≤ 40) (v : Int32) : fh_Met l y_MD_save w_MD_save ({ frames := 2, cells := 0, slots := 0, locals := 48 }) E [.ref md, .int (nI n), .int v] h (fun r h1 => r = some (.int (saveM S (nI n) v).2) ∧ ∃ sc1 ar1, MDs E h1 md ad sc1 ar1 ∧ RM sc1 ar1 (saveM S (nI n) v).1 ∧ sc1 0 = 0 ∧ KM h h1 md ad) 0 0 := by
  refine fh_ofW (cc := b_MD_save) (maxL := 5) (ret := (some .int)) (by decide) rfl (Nat.le_of_ble_eq_true rfl) ?_
  intro p e s m below meth c A ls hx hb hr hml hown hts hlocks hname hnoh hadm hA hK hZ hP hS hl
  have hG : ∀ w ∈ G, w.before _ s = true := fun w hw => hts w (List.mem_cons_of_mem _ hw)
  have hown : s.vm.findClass R_MD = some m.cls := hown
  have hl : lv_has ls 5 [(0, .ref md), (1, .int (nI n)), (2, .int v)] := hl
  have hR0 := hR
  obtain ⟨⟨a1, a2, a3, a4, a5, a6, a7, a8⟩, a9, ⟨a10, a11, a12⟩, a14, ⟨a15, a16⟩, ⟨a21, a22⟩, ⟨a24, a25⟩, a26, a27, a28⟩ := hR
  have i1 := hI.bs10
  have i2 := hI.q40
  have i3 := hI.ca6
  have km_1 : h md = some (.inr (7, [.int (sc 0), .int (sc 1), .int (sc 2), .int (sc 3), .int (sc 4), .int (sc 5), .int (sc 6), .int (sc 7), .int (sc 8), .ref (ad 9), .int (sc 10), .ref (ad 11), .ref (ad 12), .ref (ad 13), .int (sc 14), .int (sc 15), .ref (ad 16), .ref (ad 17), .ref (ad 18), .ref (ad 19), .ref (ad 20), .int (sc 21), .ref (ad 22), .ref (ad 23), .int (sc 24), .int (sc 25), .int (sc 26), .int (sc 27), .int (sc 28)])) := hM.1
  refine lv_aload_n hx hb d_MD_save_0 rfl (lv_at hl 0 rfl) ?_
  refine lv_iload_n hx hb d_MD_save_1 rfl (lv_at hl 1 rfl) ?_
  refine fh_callS (y := y_MD_isBlock) (bytes := b_MD_isBlock) (maxL := 1) (ret := (some .boolean)) (index := 131) (As := [.int (nI n)]) (rest := [.ref md]) ⟨hx, hb, hml, hown, hG⟩ (c_MD_isBlock l E h (nI n)) ⟨callB_of 1 hG (gB gm772) rfl rfl rfl (hG _ gm8) (hG _ gm770) hdy_MD_isBlock ⟨Nat.le_of_ble_eq_true rfl, Nat.le_of_ble_eq_true rfl⟩, hG _ gm771⟩ hK hZ hP hS hA rfl hl.1 rfl (Nat.le_of_ble_eq_true rfl) d_MD_save_2 ⟨Nat.le_of_ble_eq_true rfl, Nat.le_of_ble_eq_true rfl⟩ (fun r h1 H locs hq9 hP hS => ?_)
  obtain ⟨rfl, e9⟩ := hq9
  rw [e9] at hP
  refine W.eq (g2 := F0 m 5 ls [.int (if (nI n) < 0 ∨ (256 : Int32) ≤ (nI n) then 0 else 1), .ref md]) rfl ?_
  refine W.eq (g2 := F0 m 5 ls [.int 1, .ref md]) (by rw [if_neg (fun z => z.elim (nI_pos (by omega)) (nI_ge (b := 256) hn (by decide)))]) ?_
  refine lv_if_ne (tgt := 12) hx hb d_MD_save_5 (by decide) (fun c_2 => ?_) (fun c_2 => ?_)
  · skip
    refine lv_aload_n hx hb d_MD_save_12 rfl (lv_at hl 0 rfl) ?_
    refine fh_get hx hb hG C_MD iG_MD hown hK hP km_1 15 (by decide) gm688 rfl d_MD_save_13 ?_
    rw [a15]
    refine lv_iconst (v := 2) hx hb d_MD_save_16 (by decide) ?_
    refine lv_iadd hx hb d_MD_save_17 ?_
    refine W.eq (g2 := F0 m 18 ls [.int (nI (S.q.length + 2)), .ref md]) (by rw [show (2 : Int32) = nI 2 from rfl, nI_add]) ?_
    refine lv_bipush (v := 40) hx hb d_MD_save_18 (by decide) ?_
    refine lv_icmp_le (tgt := 27) hx hb d_MD_save_20 (by decide) (fun c_3 => ?_) (fun c_3 => ?_)
    · skip
      refine lv_iconst (v := 0) hx hb d_MD_save_27 (by decide) ?_
      refine fh_put hx hb hG C_MD iG_MD hown hK hP hS km_1 0 (by decide) gm673 rfl (v := .int 0) rfl rfl (Nat.le_of_ble_eq_true rfl) d_MD_save_28 (fun H locs hP hS => ?_)
      obtain ⟨h_4, eh_5⟩ : ∃ z : fh_H, z = va_up h md (some (.inr (7, [.int 0, .int (sc 1), .int (sc 2), .int (sc 3), .int (sc 4), .int (sc 5), .int (sc 6), .int (sc 7), .int (sc 8), .ref (ad 9), .int (sc 10), .ref (ad 11), .ref (ad 12), .ref (ad 13), .int (sc 14), .int (sc 15), .ref (ad 16), .ref (ad 17), .ref (ad 18), .ref (ad 19), .ref (ad 20), .int (sc 21), .ref (ad 22), .ref (ad 23), .int (sc 24), .int (sc 25), .int (sc 26), .int (sc 27), .int (sc 28)]))) := ⟨_, rfl⟩
      have hP : fh_P E.1 vwCl A h_4 H := by rw [eh_5]; exact hP
      obtain ⟨sc_6, es_7⟩ : ∃ z : Nat → Int32, z = upd sc 0 (0) := ⟨_, rfl⟩
      have m_8 : MDs E h_4 md ad sc_6 ar := by rw [es_7]; exact hM.setS (by rw [eh_5]; rfl)
      have K_9 : KM h h_4 md ad := (KM.rfl).trans (KM.upS eh_5)
      have km_10 : h_4 md = some (.inr (7, [.int (sc_6 0), .int (sc_6 1), .int (sc_6 2), .int (sc_6 3), .int (sc_6 4), .int (sc_6 5), .int (sc_6 6), .int (sc_6 7), .int (sc_6 8), .ref (ad 9), .int (sc_6 10), .ref (ad 11), .ref (ad 12), .ref (ad 13), .int (sc_6 14), .int (sc_6 15), .ref (ad 16), .ref (ad 17), .ref (ad 18), .ref (ad 19), .ref (ad 20), .int (sc_6 21), .ref (ad 22), .ref (ad 23), .int (sc_6 24), .int (sc_6 25), .int (sc_6 26), .int (sc_6 27), .int (sc_6 28)])) := m_8.1
      refine lv_aload_n hx hb d_MD_save_31 rfl (lv_at hl 0 rfl) ?_
      refine fh_get hx hb hG C_MD iG_MD hown hK hP km_10 0 (by decide) gm673 rfl d_MD_save_32 ?_
      rw [show sc_6 0 = 0 by rw [es_7, upd_eq]]
      have hR1 : RM sc_6 ar S := by rw [es_7]; exact hR0.code
      refine lv_if_le (tgt := 40) hx hb d_MD_save_35 (by decide) (fun c_11 => ?_) (fun c_11 => ?_)
      · skip
        refine lv_aload_n hx hb d_MD_save_40 rfl (lv_at hl 0 rfl) ?_
        refine lv_iload_n hx hb d_MD_save_41 rfl (lv_at hl 1 rfl) ?_
        refine fh_callV (C := R_MD) (y := y_MD_bufferOf) (bytes := b_MD_bufferOf) (maxL := 4) (ret := (some .int)) (index := 134) (As := [.int (nI n)]) (rest := []) ⟨hx, hb, hml, hown, hG⟩ (c_MD_bufferOf l E h_4 md ad sc_6 ar m_8 (nI n) S.bs.length (by rw [es_7, upd_ne (by decide)]; exact a10) (by omega)) (cwV 1 hG (gV gm773 gm775 gs_MD_bufferOf gm8 gm776) rfl rfl rfl ⟨rfl, hdy_MD_bufferOf⟩ ⟨Nat.le_of_ble_eq_true rfl, Nat.le_of_ble_eq_true rfl⟩) C_MD.1 km_10 hK hZ hP hS hA rfl hl.1 rfl (Nat.le_of_ble_eq_true rfl) d_MD_save_42 ⟨Nat.le_of_ble_eq_true rfl, Nat.le_of_ble_eq_true rfl⟩ (fun r h1 H locs hq9 hP hS => ?_)
        obtain ⟨rfl, e9⟩ := hq9
        rw [e9] at hP
        refine W.eq (g2 := F0 m 45 ls [.int (lastI (ar 11) (nI n) S.bs.length)]) rfl ?_
        rcases lastI_bf (S := S) (b := nI n) a11 hI.bsnd with ⟨hb9, e9⟩ | ⟨j, c9, hj, hc9, hb9, e9⟩
        · skip
          refine W.eq (g2 := F0 m 45 ls [.int (-1)]) (by rw [e9]) ?_
          refine lv_istore_n (lv' := [(3, .int (-1)), (0, .ref md), (1, .int (nI n)), (2, .int v)]) hx hb d_MD_save_45 rfl hl (by decide) rfl (fun ls hl => ?_)
          refine lv_iload_n hx hb d_MD_save_46 rfl (lv_at hl 0 rfl) ?_
          refine lv_if_ge (tgt := 54) hx hb d_MD_save_47 (by decide) (fun c_12 => ?_) (fun c_12 => ?_)
          · skip
            exact absurd c_12 (by decide)
          · skip
            refine lv_iconst (v := 0) hx hb d_MD_save_50 (by decide) ?_
            refine lv_goto (tgt := 60) hx hb d_MD_save_51 (by decide) ?_
            refine lv_istore (lv' := [(4, .int 0), (3, .int (-1)), (0, .ref md), (1, .int (nI n)), (2, .int v)]) hx hb d_MD_save_60 hl (by decide) rfl (fun ls hl => ?_)
            refine lv_iload_n hx hb d_MD_save_62 rfl (lv_at hl 1 rfl) ?_
            refine lv_if_ge (tgt := 73) hx hb d_MD_save_63 (by decide) (fun c_13 => ?_) (fun c_13 => ?_)
            · skip
              exact absurd c_13 (by decide)
            · skip
              refine lv_aload_n hx hb d_MD_save_66 rfl (lv_at hl 2 rfl) ?_
              have c0 : sc_6 0 = 0 := by rw [es_7, upd_eq]
              obtain ⟨hIr, hbl⟩ := Inv.room (S := S) (t := t) hI (show S.q.length < 40 by omega)
              refine fh_callV (C := R_MD) (y := y_MD_makeRoom) (bytes := b_MD_makeRoom) (maxL := 4) (ret := none) (index := 147) (As := []) (rest := []) ⟨hx, hb, hml, hown, hG⟩ (c_MD_makeRoom l E h_4 md ad sc_6 ar m_8 S t hR1 hI N hN (by omega) (show S.q.length < 40 by omega)) (cwV 0 hG (gV gm785 gm787 gs_MD_makeRoom gm8 gm788) rfl rfl rfl ⟨rfl, hdy_MD_makeRoom⟩ ⟨Nat.le_of_ble_eq_true rfl, Nat.le_of_ble_eq_true rfl⟩) C_MD.1 km_10 hK hZ hP hS hA rfl hl.1 rfl (Nat.le_of_ble_eq_true rfl) d_MD_save_67 ⟨Nat.le_of_ble_eq_true rfl, Nat.le_of_ble_eq_true rfl⟩ (fun r h_14 H locs hq9 hP hS => ?_)
              obtain ⟨rfl, sc_15, ar_16, m_17, R_18, c_20, K_19⟩ := hq9
              have K_23 : KM h h_14 md ad := (K_9).trans K_19
              refine W.eq (g2 := F0 m 70 ls []) rfl ?_
              have km_24 : h_14 md = some (.inr (7, [.int (sc_15 0), .int (sc_15 1), .int (sc_15 2), .int (sc_15 3), .int (sc_15 4), .int (sc_15 5), .int (sc_15 6), .int (sc_15 7), .int (sc_15 8), .ref (ad 9), .int (sc_15 10), .ref (ad 11), .ref (ad 12), .ref (ad 13), .int (sc_15 14), .int (sc_15 15), .ref (ad 16), .ref (ad 17), .ref (ad 18), .ref (ad 19), .ref (ad 20), .int (sc_15 21), .ref (ad 22), .ref (ad 23), .int (sc_15 24), .int (sc_15 25), .int (sc_15 26), .int (sc_15 27), .int (sc_15 28)])) := m_17.1
              refine lv_goto (tgt := 78) hx hb d_MD_save_70 (by decide) ?_
              refine lv_aload_n hx hb d_MD_save_78 rfl (lv_at hl 2 rfl) ?_
              refine lv_iload_n hx hb d_MD_save_79 rfl (lv_at hl 3 rfl) ?_
              refine lv_iload_n hx hb d_MD_save_80 rfl (lv_at hl 4 rfl) ?_
              refine lv_iconst (v := 1) hx hb d_MD_save_81 (by decide) ?_
              obtain ⟨S1, eS1⟩ : ∃ z, z = roomM S := ⟨_, rfl⟩
              rw [← eS1] at R_18 hIr hbl
              have hnb : S1.bs.find? (fun c => c.1 == nI n) = none := by rw [eS1]; exact room_nb hb9
              refine fh_callV (C := R_MD) (y := y_MD_putLast) (bytes := b_MD_putLast) (maxL := 4) (ret := none) (index := 140) (As := [.int (nI n), .int v, .int 1]) (rest := []) ⟨hx, hb, hml, hown, hG⟩ (c_MD_putLast l E h_14 md ad sc_15 ar_16 m_17 S1.bs R_18.2.2.1.1 (by omega) (nI n) v 1 (Or.inr rfl)) (cwV 3 hG (gV gm781 gm783 gs_MD_putLast gm8 gm784) rfl rfl rfl ⟨rfl, hdy_MD_putLast⟩ ⟨Nat.le_of_ble_eq_true rfl, Nat.le_of_ble_eq_true rfl⟩) C_MD.1 km_24 hK hZ hP hS hA rfl hl.1 rfl (Nat.le_of_ble_eq_true rfl) d_MD_save_82 ⟨Nat.le_of_ble_eq_true rfl, Nat.le_of_ble_eq_true rfl⟩ (fun r h_25 H locs hq9 hP hS => ?_)
              obtain ⟨rfl, m_28, K_30⟩ := hq9
              have K_34 : KM h h_25 md ad := (K_23).trans K_30
              refine W.eq (g2 := F0 m 85 ls []) rfl ?_
              obtain ⟨sc_35, es_36⟩ : ∃ z : Nat → Int32, z = upd sc_15 10 (nI (S1.bs.length + 1)) := ⟨_, rfl⟩
              rw [← es_36] at m_28
              obtain ⟨ar_37, ea_38⟩ : ∃ z : Nat → Nat → Int32, z = lyB ar_16 S1.bs.length (nI n) v 1 := ⟨_, rfl⟩
              rw [← ea_38] at m_28
              have km_39 : h_25 md = some (.inr (7, [.int (sc_35 0), .int (sc_35 1), .int (sc_35 2), .int (sc_35 3), .int (sc_35 4), .int (sc_35 5), .int (sc_35 6), .int (sc_35 7), .int (sc_35 8), .ref (ad 9), .int (sc_35 10), .ref (ad 11), .ref (ad 12), .ref (ad 13), .int (sc_35 14), .int (sc_35 15), .ref (ad 16), .ref (ad 17), .ref (ad 18), .ref (ad 19), .ref (ad 20), .int (sc_35 21), .ref (ad 22), .ref (ad 23), .int (sc_35 24), .int (sc_35 25), .int (sc_35 26), .int (sc_35 27), .int (sc_35 28)])) := m_28.1
              refine lv_iload hx hb d_MD_save_85 (lv_at hl 0 rfl) ?_
              have eM : saveM S (nI n) v = (putM S1 (nI n) v 1, 0) := by unfold saveM; rw [hb9]; simp only []; rw [← eS1]
              exact fh_iret hx hb hr hlocks (Nat.le_of_ble_eq_true rfl) (Nat.le_of_ble_eq_true rfl) hP hS ⟨by rw [eM], sc_35, ar_37, m_28, by rw [eM]; exact R_18.put (bs := S1.bs) (Or.inr rfl) (ep_id hnb) (by rw [es_36, upd_eq]) (fun j hj => by rw [es_36, upd_ne hj]) (fun k hk => by rw [ea_38, lyB_o hk]) (by rw [ea_38]; exact bL_ly R_18.2.2.1.2.1), by rw [es_36, upd_ne (by decide)]; exact c_20.trans c0, K_34⟩ d_MD_save_87
        · skip
          refine W.eq (g2 := F0 m 45 ls [.int (nI j)]) (by rw [e9]) ?_
          refine lv_istore_n (lv' := [(3, .int (nI j)), (0, .ref md), (1, .int (nI n)), (2, .int v)]) hx hb d_MD_save_45 rfl hl (by decide) rfl (fun ls hl => ?_)
          refine lv_iload_n hx hb d_MD_save_46 rfl (lv_at hl 0 rfl) ?_
          have hjl := (List.getElem?_eq_some_iff.mp hj).1
          obtain ⟨g1, g2, g3⟩ := a11 j c9 hj
          refine lv_if_ge (tgt := 54) hx hb d_MD_save_47 (by decide) (fun c_40 => ?_) (fun c_40 => ?_)
          · skip
            have km_41 : h_4 md = some (.inr (7, [.int (sc_6 0), .int (sc_6 1), .int (sc_6 2), .int (sc_6 3), .int (sc_6 4), .int (sc_6 5), .int (sc_6 6), .int (sc_6 7), .int (sc_6 8), .ref (ad 9), .int (sc_6 10), .ref (ad 11), .ref (ad 12), .ref (ad 13), .int (sc_6 14), .int (sc_6 15), .ref (ad 16), .ref (ad 17), .ref (ad 18), .ref (ad 19), .ref (ad 20), .int (sc_6 21), .ref (ad 22), .ref (ad 23), .int (sc_6 24), .int (sc_6 25), .int (sc_6 26), .int (sc_6 27), .int (sc_6 28)])) := m_8.1
            have ka_42 : h_4 (ad 12) = some (.inl (fh_cI E, 11, .inl (ar 12))) := m_8.2.1 12 rfl
            refine lv_aload_n hx hb d_MD_save_54 rfl (lv_at hl 1 rfl) ?_
            refine fh_get hx hb hG C_MD iG_MD hown hK hP km_41 12 (by decide) gm685 rfl d_MD_save_55 ?_
            refine lv_iload_n hx hb d_MD_save_58 rfl (lv_at hl 0 rfl) ?_
            refine fh_ialK hx hb hK hP 0 ka_42 rfl (k := j) (by omega) (by decide) d_MD_save_59 ?_
            rw [g2]
            refine lv_istore (lv' := [(4, .int (c9.2.1)), (3, .int (nI j)), (0, .ref md), (1, .int (nI n)), (2, .int v)]) hx hb d_MD_save_60 hl (by decide) rfl (fun ls hl => ?_)
            refine lv_iload_n hx hb d_MD_save_62 rfl (lv_at hl 1 rfl) ?_
            refine lv_if_ge (tgt := 73) hx hb d_MD_save_63 (by decide) (fun c_43 => ?_) (fun c_43 => ?_)
            · skip
              refine lv_aload_n hx hb d_MD_save_73 rfl (lv_at hl 2 rfl) ?_
              refine lv_iload_n hx hb d_MD_save_74 rfl (lv_at hl 1 rfl) ?_
              refine fh_callV (C := R_MD) (y := y_MD_closeUp) (bytes := b_MD_closeUp) (maxL := 3) (ret := none) (index := 58) (As := [.int (nI j)]) (rest := []) ⟨hx, hb, hml, hown, hG⟩ (c_MD_closeUp l E h_4 md ad sc_6 ar m_8 S.bs a11 a12 (by rw [es_7, upd_ne (by decide)]; exact a10) (by omega) j hjl) (cwV 1 hG (gV gm777 gm779 gs_MD_closeUp gm8 gm780) rfl rfl rfl ⟨rfl, hdy_MD_closeUp⟩ ⟨Nat.le_of_ble_eq_true rfl, Nat.le_of_ble_eq_true rfl⟩) C_MD.1 km_41 hK hZ hP hS hA rfl hl.1 rfl (Nat.le_of_ble_eq_true rfl) d_MD_save_75 ⟨Nat.le_of_ble_eq_true rfl, Nat.le_of_ble_eq_true rfl⟩ (fun r h_44 H locs hq9 hP hS => ?_)
              obtain ⟨rfl, ar_46, m_47, a_51, b_52, K_49⟩ := hq9
              have K_53 : KM h h_44 md ad := (K_9).trans K_49
              refine W.eq (g2 := F0 m 78 ls []) rfl ?_
              obtain ⟨sc_54, es_55⟩ : ∃ z : Nat → Int32, z = upd sc_6 10 (nI (S.bs.length - 1)) := ⟨_, rfl⟩
              rw [← es_55] at m_47
              have km_56 : h_44 md = some (.inr (7, [.int (sc_54 0), .int (sc_54 1), .int (sc_54 2), .int (sc_54 3), .int (sc_54 4), .int (sc_54 5), .int (sc_54 6), .int (sc_54 7), .int (sc_54 8), .ref (ad 9), .int (sc_54 10), .ref (ad 11), .ref (ad 12), .ref (ad 13), .int (sc_54 14), .int (sc_54 15), .ref (ad 16), .ref (ad 17), .ref (ad 18), .ref (ad 19), .ref (ad 20), .int (sc_54 21), .ref (ad 22), .ref (ad 23), .int (sc_54 24), .int (sc_54 25), .int (sc_54 26), .int (sc_54 27), .int (sc_54 28)])) := m_47.1
              refine lv_aload_n hx hb d_MD_save_78 rfl (lv_at hl 2 rfl) ?_
              refine lv_iload_n hx hb d_MD_save_79 rfl (lv_at hl 3 rfl) ?_
              refine lv_iload_n hx hb d_MD_save_80 rfl (lv_at hl 4 rfl) ?_
              refine lv_iconst (v := 1) hx hb d_MD_save_81 (by decide) ?_
              have hel : (S.bs.eraseIdx j).length = S.bs.length - 1 := by rw [List.length_eraseIdx, if_pos hjl]
              refine fh_callV (C := R_MD) (y := y_MD_putLast) (bytes := b_MD_putLast) (maxL := 4) (ret := none) (index := 140) (As := [.int (nI n), .int v, .int 1]) (rest := []) ⟨hx, hb, hml, hown, hG⟩ (c_MD_putLast l E h_44 md ad sc_54 ar_46 m_47 (S.bs.eraseIdx j) (by rw [es_55, upd_eq, hel]) (by omega) (nI n) v 1 (Or.inr rfl)) (cwV 3 hG (gV gm781 gm783 gs_MD_putLast gm8 gm784) rfl rfl rfl ⟨rfl, hdy_MD_putLast⟩ ⟨Nat.le_of_ble_eq_true rfl, Nat.le_of_ble_eq_true rfl⟩) C_MD.1 km_56 hK hZ hP hS hA rfl hl.1 rfl (Nat.le_of_ble_eq_true rfl) d_MD_save_82 ⟨Nat.le_of_ble_eq_true rfl, Nat.le_of_ble_eq_true rfl⟩ (fun r h_57 H locs hq9 hP hS => ?_)
              obtain ⟨rfl, m_60, K_62⟩ := hq9
              have K_66 : KM h h_57 md ad := (K_53).trans K_62
              refine W.eq (g2 := F0 m 85 ls []) rfl ?_
              obtain ⟨sc_67, es_68⟩ : ∃ z : Nat → Int32, z = upd sc_54 10 (nI ((S.bs.eraseIdx j).length + 1)) := ⟨_, rfl⟩
              rw [← es_68] at m_60
              obtain ⟨ar_69, ea_70⟩ : ∃ z : Nat → Nat → Int32, z = lyB ar_46 (S.bs.eraseIdx j).length (nI n) v 1 := ⟨_, rfl⟩
              rw [← ea_70] at m_60
              refine lv_iload hx hb d_MD_save_85 (lv_at hl 0 rfl) ?_
              have eM : saveM S (nI n) v = (putM S (nI n) v 1, c9.2.1) := by unfold saveM; rw [hb9]
              exact fh_iret hx hb hr hlocks (Nat.le_of_ble_eq_true rfl) (Nat.le_of_ble_eq_true rfl) hP hS ⟨by rw [eM], sc_67, ar_69, m_60, by rw [eM]; exact hR1.put (bs := S.bs.eraseIdx j) (Or.inr rfl) (ep_ix hI.bsnd hj hc9) (by rw [es_68, upd_eq]) (fun j hj => by rw [es_68, upd_ne hj, es_55, upd_ne hj]) (fun k hk => by rw [ea_70, lyB_o hk]; exact b_52 k hk) (by rw [ea_70]; exact bL_ly a_51), by rw [es_68, upd_ne (by decide), es_55, upd_ne (by decide), es_7, upd_eq], K_66⟩ d_MD_save_87
            · skip
              exact absurd (nI_pos' (by omega)) c_43
          · skip
            exact absurd (nI_pos' (by omega)) c_40
      · skip
        exact absurd (show (0 : Int32) ≤ 0 by decide) c_11
    · skip
      exact absurd (nI_le (b := 40) (by omega) (by decide)) c_3
  · skip
    exact absurd c_2 (by decide)

