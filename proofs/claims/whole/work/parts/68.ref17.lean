/-! THE REFERENCE: step and drain. -/
theorem paM_0 (f : Nat) (S : mS) : paM f 0 S = S := by
  cases f with
  | zero => rfl
  | succ f => exact if_pos rfl
theorem paM_i {f left : Nat} {S : mS} (h0 : ¬ left = 0) (h : (bgM S).sv = none) : paM (f + 1) left S = idM (bgM S) (nI left) := by
  show (if left = 0 then _ else match (bgM S).sv with | none => _ | some _ => _) = _
  rw [if_neg h0, h]
theorem paM_p {f left : Nat} {S : mS} {r : mQ} (h0 : ¬ left = 0) (h : (bgM S).sv = some r) (hl : left < (bgM S).ul.toNatClampNeg) : paM (f + 1) left S = ptM (bgM S) (nI left) := by
  show (if left = 0 then _ else match (bgM S).sv with | none => _ | some _ => _) = _
  rw [if_neg h0, h]; simp only []; rw [if_pos hl]
theorem paM_e {f left : Nat} {S : mS} {r : mQ} (h0 : ¬ left = 0) (h : (bgM S).sv = some r) (hl : ¬ left < (bgM S).ul.toNatClampNeg) : paM (f + 1) left S = paM f (left - (bgM S).ul.toNatClampNeg) (endM (bgM S)) := by
  show (if left = 0 then _ else match (bgM S).sv with | none => _ | some _ => _) = _
  rw [if_neg h0, h]; simp only []; rw [if_neg hl]
theorem bgM_tm (S : mS) : (bgM S).tm = S.tm := by
  unfold bgM begM
  cases S.sv with
  | some r => rfl
  | none =>
    simp only []
    split
    · rfl
    · split <;> rfl
theorem endM_tm {S : mS} {r : mQ} (h : S.sv = some r) : (endM S).tm = S.tm + S.ul := by
  unfold endM; rw [h]; rfl
set_option maxHeartbeats 800000 in
set_option maxRecDepth 100000 in
theorem c_MD_step_b (l : Launch) (E : fh_E) (h : fh_H) (md : Nat) (ad : Nat → Nat) (sc : Nat → Int32) (ar : Nat → Nat → Int32) (hM : MDs E h md ad sc ar) (S : mS) (t : Nat) (hR : RM sc ar S) (hI : Inv S t) (b : Int32) (hbad : b.toInt < 1 ∨ (1000 : Int) < b.toInt) : fh_Met l y_MD_step w_MD_step ({ frames := 5, cells := 0, slots := 0, locals := 111 }) E [.ref md, .int b] h (fun r h1 => r = some (.int 0) ∧ ∃ sc1 ar1, MDs E h1 md ad sc1 ar1 ∧ RM sc1 ar1 S ∧ sc1 0 = 1 ∧ KM h h1 md ad) 0 0 := by
  refine fh_ofW (cc := b_MD_step) (maxL := 3) (ret := (some .int)) (by decide) rfl (Nat.le_of_ble_eq_true rfl) ?_
  intro p e s m below meth c A ls hx hb hr hml hown hts hlocks hname hnoh hadm hA hK hZ hP hS hl
  have hG : ∀ w ∈ G, w.before _ s = true := fun w hw => hts w (List.mem_cons_of_mem _ hw)
  have hown : s.vm.findClass R_MD = some m.cls := hown
  have hl : lv_has ls 3 [(0, .ref md), (1, .int b)] := hl
  have hR0 := hR
  obtain ⟨⟨a1, a2, a3, a4, a5, a6, a7, a8⟩, a9, ⟨a10, a11, a12⟩, a14, ⟨a15, a16⟩, ⟨a21, a22⟩, ⟨a24, a25⟩, a26, a27, a28⟩ := hR
  have i1 := hI.bs10
  have i2 := hI.q40
  have i3 := hI.ca6
  have km_1 : h md = some (.inr (7, [.int (sc 0), .int (sc 1), .int (sc 2), .int (sc 3), .int (sc 4), .int (sc 5), .int (sc 6), .int (sc 7), .int (sc 8), .ref (ad 9), .int (sc 10), .ref (ad 11), .ref (ad 12), .ref (ad 13), .int (sc 14), .int (sc 15), .ref (ad 16), .ref (ad 17), .ref (ad 18), .ref (ad 19), .ref (ad 20), .int (sc 21), .ref (ad 22), .ref (ad 23), .int (sc 24), .int (sc 25), .int (sc 26), .int (sc 27), .int (sc 28)])) := hM.1
  refine lv_aload_n hx hb d_MD_step_0 rfl (lv_at hl 0 rfl) ?_
  refine lv_iload_n hx hb d_MD_step_1 rfl (lv_at hl 1 rfl) ?_
  refine lv_iconst (v := 1) hx hb d_MD_step_2 (by decide) ?_
  refine lv_icmp_lt (tgt := 13) hx hb d_MD_step_3 (by decide) (fun c_2 => ?_) (fun c_2 => ?_)
  · skip
    refine lv_iconst (v := 1) hx hb d_MD_step_13 (by decide) ?_
    refine lv_goto (tgt := 18) hx hb d_MD_step_14 (by decide) ?_
    refine fh_put hx hb hG C_MD iG_MD hown hK hP hS km_1 0 (by decide) gm673 rfl (v := .int 1) rfl rfl (Nat.le_of_ble_eq_true rfl) d_MD_step_18 (fun H locs hP hS => ?_)
    obtain ⟨h_3, eh_4⟩ : ∃ z : fh_H, z = va_up h md (some (.inr (7, [.int 1, .int (sc 1), .int (sc 2), .int (sc 3), .int (sc 4), .int (sc 5), .int (sc 6), .int (sc 7), .int (sc 8), .ref (ad 9), .int (sc 10), .ref (ad 11), .ref (ad 12), .ref (ad 13), .int (sc 14), .int (sc 15), .ref (ad 16), .ref (ad 17), .ref (ad 18), .ref (ad 19), .ref (ad 20), .int (sc 21), .ref (ad 22), .ref (ad 23), .int (sc 24), .int (sc 25), .int (sc 26), .int (sc 27), .int (sc 28)]))) := ⟨_, rfl⟩
    have hP : fh_P E.1 vwCl A h_3 H := by rw [eh_4]; exact hP
    obtain ⟨sc_5, es_6⟩ : ∃ z : Nat → Int32, z = upd sc 0 (1) := ⟨_, rfl⟩
    have m_7 : MDs E h_3 md ad sc_5 ar := by rw [es_6]; exact hM.setS (by rw [eh_4]; rfl)
    have K_8 : KM h h_3 md ad := (KM.rfl).trans (KM.upS eh_4)
    have km_9 : h_3 md = some (.inr (7, [.int (sc_5 0), .int (sc_5 1), .int (sc_5 2), .int (sc_5 3), .int (sc_5 4), .int (sc_5 5), .int (sc_5 6), .int (sc_5 7), .int (sc_5 8), .ref (ad 9), .int (sc_5 10), .ref (ad 11), .ref (ad 12), .ref (ad 13), .int (sc_5 14), .int (sc_5 15), .ref (ad 16), .ref (ad 17), .ref (ad 18), .ref (ad 19), .ref (ad 20), .int (sc_5 21), .ref (ad 22), .ref (ad 23), .int (sc_5 24), .int (sc_5 25), .int (sc_5 26), .int (sc_5 27), .int (sc_5 28)])) := m_7.1
    refine lv_aload_n hx hb d_MD_step_21 rfl (lv_at hl 0 rfl) ?_
    refine fh_get hx hb hG C_MD iG_MD hown hK hP km_9 0 (by decide) gm673 rfl d_MD_step_22 ?_
    rw [show sc_5 0 = 1 by rw [es_6, upd_eq]]
    refine lv_if_le (tgt := 30) hx hb d_MD_step_25 (by decide) (fun c_10 => ?_) (fun c_10 => ?_)
    · skip
      exact absurd c_10 (by decide)
    · skip
      refine lv_iconst (v := 0) hx hb d_MD_step_28 (by decide) ?_
      exact fh_iret hx hb hr hlocks (Nat.le_of_ble_eq_true rfl) (Nat.le_of_ble_eq_true rfl) hP hS ⟨rfl, sc_5, ar, m_7, by rw [es_6]; exact hR0.code, by rw [es_6, upd_eq], K_8⟩ d_MD_step_29
  · skip
    refine lv_iload_n hx hb d_MD_step_6 rfl (lv_at hl 1 rfl) ?_
    refine lv_sipush (v := 1000) hx hb d_MD_step_7 (by decide) ?_
    refine lv_icmp_le (tgt := 17) hx hb d_MD_step_10 (by decide) (fun c_11 => ?_) (fun c_11 => ?_)
    · skip
      exact absurd hbad (fun z => z.elim (fun w => c_2 (Int32.lt_iff_toInt_lt.mpr w)) (fun w => absurd (Int32.le_iff_toInt_le.mp c_11) (Int.not_le.mpr w)))
    · skip
      refine lv_iconst (v := 1) hx hb d_MD_step_13 (by decide) ?_
      refine lv_goto (tgt := 18) hx hb d_MD_step_14 (by decide) ?_
      refine fh_put hx hb hG C_MD iG_MD hown hK hP hS km_1 0 (by decide) gm673 rfl (v := .int 1) rfl rfl (Nat.le_of_ble_eq_true rfl) d_MD_step_18 (fun H locs hP hS => ?_)
      obtain ⟨h_12, eh_13⟩ : ∃ z : fh_H, z = va_up h md (some (.inr (7, [.int 1, .int (sc 1), .int (sc 2), .int (sc 3), .int (sc 4), .int (sc 5), .int (sc 6), .int (sc 7), .int (sc 8), .ref (ad 9), .int (sc 10), .ref (ad 11), .ref (ad 12), .ref (ad 13), .int (sc 14), .int (sc 15), .ref (ad 16), .ref (ad 17), .ref (ad 18), .ref (ad 19), .ref (ad 20), .int (sc 21), .ref (ad 22), .ref (ad 23), .int (sc 24), .int (sc 25), .int (sc 26), .int (sc 27), .int (sc 28)]))) := ⟨_, rfl⟩
      have hP : fh_P E.1 vwCl A h_12 H := by rw [eh_13]; exact hP
      obtain ⟨sc_14, es_15⟩ : ∃ z : Nat → Int32, z = upd sc 0 (1) := ⟨_, rfl⟩
      have m_16 : MDs E h_12 md ad sc_14 ar := by rw [es_15]; exact hM.setS (by rw [eh_13]; rfl)
      have K_17 : KM h h_12 md ad := (KM.rfl).trans (KM.upS eh_13)
      have km_18 : h_12 md = some (.inr (7, [.int (sc_14 0), .int (sc_14 1), .int (sc_14 2), .int (sc_14 3), .int (sc_14 4), .int (sc_14 5), .int (sc_14 6), .int (sc_14 7), .int (sc_14 8), .ref (ad 9), .int (sc_14 10), .ref (ad 11), .ref (ad 12), .ref (ad 13), .int (sc_14 14), .int (sc_14 15), .ref (ad 16), .ref (ad 17), .ref (ad 18), .ref (ad 19), .ref (ad 20), .int (sc_14 21), .ref (ad 22), .ref (ad 23), .int (sc_14 24), .int (sc_14 25), .int (sc_14 26), .int (sc_14 27), .int (sc_14 28)])) := m_16.1
      refine lv_aload_n hx hb d_MD_step_21 rfl (lv_at hl 0 rfl) ?_
      refine fh_get hx hb hG C_MD iG_MD hown hK hP km_18 0 (by decide) gm673 rfl d_MD_step_22 ?_
      rw [show sc_14 0 = 1 by rw [es_15, upd_eq]]
      refine lv_if_le (tgt := 30) hx hb d_MD_step_25 (by decide) (fun c_19 => ?_) (fun c_19 => ?_)
      · skip
        exact absurd c_19 (by decide)
      · skip
        refine lv_iconst (v := 0) hx hb d_MD_step_28 (by decide) ?_
        exact fh_iret hx hb hr hlocks (Nat.le_of_ble_eq_true rfl) (Nat.le_of_ble_eq_true rfl) hP hS ⟨rfl, sc_14, ar, m_16, by rw [es_15]; exact hR0.code, by rw [es_15, upd_eq], K_17⟩ d_MD_step_29

set_option maxHeartbeats 800000 in
set_option maxRecDepth 100000 in
theorem c_MD_step (l : Launch) (E : fh_E) (h : fh_H) (md : Nat) (ad : Nat → Nat) (sc : Nat → Int32) (ar : Nat → Nat → Int32) (hM : MDs E h md ad sc ar) (S : mS) (t : Nat) (hR : RM sc ar S) (hI : Inv S t) (n : Nat) (hn1 : 1 ≤ n) (hn2 : n ≤ 1000) (ht : t + 2000 < 2 ^ 31) : fh_Met l y_MD_step w_MD_step ({ frames := 5, cells := 0, slots := 0, locals := 111 }) E [.ref md, .int (nI n)] h (fun r h1 => r = some (.int ((paM 43 n S).tm)) ∧ ∃ sc1 ar1, MDs E h1 md ad sc1 ar1 ∧ RM sc1 ar1 (paM 43 n S) ∧ sc1 0 = 0 ∧ KM h h1 md ad) 0 0 := by
  refine fh_ofW (cc := b_MD_step) (maxL := 3) (ret := (some .int)) (by decide) rfl (Nat.le_of_ble_eq_true rfl) ?_
  intro p e s m below meth c A ls hx hb hr hml hown hts hlocks hname hnoh hadm hA hK hZ hP hS hl
  have hG : ∀ w ∈ G, w.before _ s = true := fun w hw => hts w (List.mem_cons_of_mem _ hw)
  have hown : s.vm.findClass R_MD = some m.cls := hown
  have hl : lv_has ls 3 [(0, .ref md), (1, .int (nI n))] := hl
  have hR0 := hR
  obtain ⟨⟨a1, a2, a3, a4, a5, a6, a7, a8⟩, a9, ⟨a10, a11, a12⟩, a14, ⟨a15, a16⟩, ⟨a21, a22⟩, ⟨a24, a25⟩, a26, a27, a28⟩ := hR
  have i1 := hI.bs10
  have i2 := hI.q40
  have i3 := hI.ca6
  have km_1 : h md = some (.inr (7, [.int (sc 0), .int (sc 1), .int (sc 2), .int (sc 3), .int (sc 4), .int (sc 5), .int (sc 6), .int (sc 7), .int (sc 8), .ref (ad 9), .int (sc 10), .ref (ad 11), .ref (ad 12), .ref (ad 13), .int (sc 14), .int (sc 15), .ref (ad 16), .ref (ad 17), .ref (ad 18), .ref (ad 19), .ref (ad 20), .int (sc 21), .ref (ad 22), .ref (ad 23), .int (sc 24), .int (sc 25), .int (sc 26), .int (sc 27), .int (sc 28)])) := hM.1
  refine lv_aload_n hx hb d_MD_step_0 rfl (lv_at hl 0 rfl) ?_
  refine lv_iload_n hx hb d_MD_step_1 rfl (lv_at hl 1 rfl) ?_
  refine lv_iconst (v := 1) hx hb d_MD_step_2 (by decide) ?_
  refine lv_icmp_lt (tgt := 13) hx hb d_MD_step_3 (by decide) (fun c_2 => ?_) (fun c_2 => ?_)
  · skip
    exact absurd c_2 (nI_nlt (b := 1) hn1 (by omega))
  · skip
    refine lv_iload_n hx hb d_MD_step_6 rfl (lv_at hl 1 rfl) ?_
    refine lv_sipush (v := 1000) hx hb d_MD_step_7 (by decide) ?_
    refine lv_icmp_le (tgt := 17) hx hb d_MD_step_10 (by decide) (fun c_3 => ?_) (fun c_3 => ?_)
    · skip
      refine lv_iconst (v := 0) hx hb d_MD_step_17 (by decide) ?_
      refine fh_put hx hb hG C_MD iG_MD hown hK hP hS km_1 0 (by decide) gm673 rfl (v := .int 0) rfl rfl (Nat.le_of_ble_eq_true rfl) d_MD_step_18 (fun H locs hP hS => ?_)
      obtain ⟨h_4, eh_5⟩ : ∃ z : fh_H, z = va_up h md (some (.inr (7, [.int 0, .int (sc 1), .int (sc 2), .int (sc 3), .int (sc 4), .int (sc 5), .int (sc 6), .int (sc 7), .int (sc 8), .ref (ad 9), .int (sc 10), .ref (ad 11), .ref (ad 12), .ref (ad 13), .int (sc 14), .int (sc 15), .ref (ad 16), .ref (ad 17), .ref (ad 18), .ref (ad 19), .ref (ad 20), .int (sc 21), .ref (ad 22), .ref (ad 23), .int (sc 24), .int (sc 25), .int (sc 26), .int (sc 27), .int (sc 28)]))) := ⟨_, rfl⟩
      have hP : fh_P E.1 vwCl A h_4 H := by rw [eh_5]; exact hP
      obtain ⟨sc_6, es_7⟩ : ∃ z : Nat → Int32, z = upd sc 0 (0) := ⟨_, rfl⟩
      have m_8 : MDs E h_4 md ad sc_6 ar := by rw [es_7]; exact hM.setS (by rw [eh_5]; rfl)
      have K_9 : KM h h_4 md ad := (KM.rfl).trans (KM.upS eh_5)
      have km_10 : h_4 md = some (.inr (7, [.int (sc_6 0), .int (sc_6 1), .int (sc_6 2), .int (sc_6 3), .int (sc_6 4), .int (sc_6 5), .int (sc_6 6), .int (sc_6 7), .int (sc_6 8), .ref (ad 9), .int (sc_6 10), .ref (ad 11), .ref (ad 12), .ref (ad 13), .int (sc_6 14), .int (sc_6 15), .ref (ad 16), .ref (ad 17), .ref (ad 18), .ref (ad 19), .ref (ad 20), .int (sc_6 21), .ref (ad 22), .ref (ad 23), .int (sc_6 24), .int (sc_6 25), .int (sc_6 26), .int (sc_6 27), .int (sc_6 28)])) := m_8.1
      refine lv_aload_n hx hb d_MD_step_21 rfl (lv_at hl 0 rfl) ?_
      refine fh_get hx hb hG C_MD iG_MD hown hK hP km_10 0 (by decide) gm673 rfl d_MD_step_22 ?_
      rw [show sc_6 0 = 0 by rw [es_7, upd_eq]]
      have hR1 : RM sc_6 ar S := by rw [es_7]; exact hR0.code
      have c0 : sc_6 0 = 0 := by rw [es_7, upd_eq]
      refine lv_if_le (tgt := 30) hx hb d_MD_step_25 (by decide) (fun c_11 => ?_) (fun c_11 => ?_)
      · skip
        obtain ⟨a0, ha0, ea0⟩ := hI.tmt
        refine lv_aload_n hx hb d_MD_step_30 rfl (lv_at hl 0 rfl) ?_
        refine fh_get hx hb hG C_MD iG_MD hown hK hP km_10 1 (by decide) gm674 rfl d_MD_step_31 ?_
        rw [show sc_6 1 = nI a0 by rw [es_7, upd_ne (by decide), a1, ea0]]
        refine lv_iload_n hx hb d_MD_step_34 rfl (lv_at hl 1 rfl) ?_
        refine lv_iadd hx hb d_MD_step_35 ?_
        refine W.eq (g2 := F0 m 36 ls [.int (nI (a0 + n))]) (by rw [nI_add]) ?_
        refine lv_istore_n (lv' := [(2, .int (nI (a0 + n))), (0, .ref md), (1, .int (nI n))]) hx hb d_MD_step_36 rfl hl (by decide) rfl (fun ls hl => ?_)
        have loop : ∀ (f left x0 : Nat) (T : mS) (tt : Nat) (sc' : Nat → Int32) (ar' : Nat → Nat → Int32) (h' : fh_H) (H : Heap) (locs : List Loc) (ls : Array Slot), cnt T < f → lv_has ls 3 [(2, .int (nI (a0 + n))), (0, .ref md), (1, .int (nI n))] → fh_P E.1 vwCl A h' H → va_S A s.heap H locs → MDs E h' md ad sc' ar' → RM sc' ar' T → Inv T tt → T.tm = nI x0 → x0 + left = a0 + n → paM f left T = paM 43 n S → sc' 0 = 0 → KM h h' md ad → W p l e ({ frames := 5, cells := 0, slots := 0, locals := 111 }) s m ([.ref md, .int (nI n)] : List Value).toArray below meth c H locs 0 0 (MQ below (fh_Post E (fun r h1 => r = some (.int ((paM 43 n S).tm)) ∧ ∃ sc1 ar1, MDs E h1 md ad sc1 ar1 ∧ RM sc1 ar1 (paM 43 n S) ∧ sc1 0 = 0 ∧ KM h h1 md ad) A) ([.ref md, .int (nI n)] : List Value).toArray s 0 0 A) (F0 m 37 ls []) := by
          intro f
          induction f with
          | zero => intro left x0 T tt sc' ar' h' H locs ls hcn; omega
          | succ f ih =>
            intro left x0 T tt sc' ar' h' H locs ls hcn hl hP hS hM' hRT hIT etm hx0 hpa h0 K'
            have km_12 : h' md = some (.inr (7, [.int (sc' 0), .int (sc' 1), .int (sc' 2), .int (sc' 3), .int (sc' 4), .int (sc' 5), .int (sc' 6), .int (sc' 7), .int (sc' 8), .ref (ad 9), .int (sc' 10), .ref (ad 11), .ref (ad 12), .ref (ad 13), .int (sc' 14), .int (sc' 15), .ref (ad 16), .ref (ad 17), .ref (ad 18), .ref (ad 19), .ref (ad 20), .int (sc' 21), .ref (ad 22), .ref (ad 23), .int (sc' 24), .int (sc' 25), .int (sc' 26), .int (sc' 27), .int (sc' 28)])) := hM'.1
            have e1 : sc' 1 = nI x0 := hRT.1.1.trans etm
            by_cases hl0 : left = 0
            · skip
              refine lv_aload_n hx hb d_MD_step_37 rfl (lv_at hl 1 rfl) ?_
              refine fh_get hx hb hG C_MD iG_MD hown hK hP km_12 1 (by decide) gm674 rfl d_MD_step_38 ?_
              rw [e1]
              refine lv_iload_n hx hb d_MD_step_41 rfl (lv_at hl 0 rfl) ?_
              refine lv_icmp_ge (tgt := 119) hx hb d_MD_step_42 (by decide) (fun c_13 => ?_) (fun c_13 => ?_)
              · skip
                refine lv_aload_n hx hb d_MD_step_119 rfl (lv_at hl 1 rfl) ?_
                refine fh_get hx hb hG C_MD iG_MD hown hK hP km_12 1 (by decide) gm674 rfl d_MD_step_120 ?_
                exact fh_iret hx hb hr hlocks (Nat.le_of_ble_eq_true rfl) (Nat.le_of_ble_eq_true rfl) hP hS ⟨by rw [← hpa, hl0, paM_0, hRT.1.1], sc', ar', hM', by rw [← hpa, hl0, paM_0]; exact hRT, h0, K'⟩ d_MD_step_123
              · skip
                exact absurd (nI_le (by omega) (by omega)) c_13
            · skip
              refine lv_aload_n hx hb d_MD_step_37 rfl (lv_at hl 1 rfl) ?_
              refine fh_get hx hb hG C_MD iG_MD hown hK hP km_12 1 (by decide) gm674 rfl d_MD_step_38 ?_
              rw [e1]
              refine lv_iload_n hx hb d_MD_step_41 rfl (lv_at hl 0 rfl) ?_
              refine lv_icmp_ge (tgt := 119) hx hb d_MD_step_42 (by decide) (fun c_14 => ?_) (fun c_14 => ?_)
              · skip
                exact absurd c_14 (nI_ge (by omega) (by omega))
              · skip
                obtain ⟨hIb, hcb, hnb9⟩ := hIT.bg
                have etb : (bgM T).tm = nI x0 := (bgM_tm T).trans etm
                refine lv_aload_n hx hb d_MD_step_45 rfl (lv_at hl 1 rfl) ?_
                refine fh_get hx hb hG C_MD iG_MD hown hK hP km_12 26 (by decide) gm699 rfl d_MD_step_46 ?_
                cases hsv : T.sv with
                | some r8 =>
                  rw [(hRT.2.2.2.2.2.2.2.2.1 r8 hsv).1]
                  refine lv_if_ne (tgt := 63) hx hb d_MD_step_49 (by decide) (fun c_15 => ?_) (fun c_15 => ?_)
                  · skip
                    have eb8 := bgM_s hsv
                    have hr8 : (bgM T).sv = some r8 := by rw [eb8]; exact hsv
                    have hRb : RM sc' ar' (bgM T) := by rw [eb8]; exact hRT
                    have C0 : sc' 0 = 0 := h0
                    obtain ⟨v26, v40, v27⟩ := hRb.2.2.2.2.2.2.2.2.1 r8 hr8
                    obtain ⟨u9, hu9, hu8, hu1, hu4⟩ := hIb.ulu hr8
                    have e27 : sc' 27 = nI (x0 + u9) := by rw [v27, etb, hu9, nI_add]
                    refine lv_aload_n hx hb d_MD_step_63 rfl (lv_at hl 1 rfl) ?_
                    refine fh_get hx hb hG C_MD iG_MD hown hK hP km_12 26 (by decide) gm699 rfl d_MD_step_64 ?_
                    rw [v26]
                    refine lv_if_eq (tgt := 85) hx hb d_MD_step_67 (by decide) (fun c_16 => ?_) (fun c_16 => ?_)
                    · skip
                      exact absurd c_16 (by decide)
                    · skip
                      refine lv_aload_n hx hb d_MD_step_70 rfl (lv_at hl 1 rfl) ?_
                      refine fh_get hx hb hG C_MD iG_MD hown hK hP km_12 27 (by decide) gm700 rfl d_MD_step_71 ?_
                      rw [e27]
                      refine lv_iload_n hx hb d_MD_step_74 rfl (lv_at hl 0 rfl) ?_
                      refine lv_icmp_gt (tgt := 85) hx hb d_MD_step_75 (by decide) (fun c_17 => ?_) (fun c_17 => ?_)
                      · skip
                        have hlt : left < u9 := by
                          by_cases z : left < u9
                          · exact z
                          · exact absurd (nI_nlt (by omega) (by omega)) (fun w => w c_17)
                        refine lv_aload_n hx hb d_MD_step_85 rfl (lv_at hl 1 rfl) ?_
                        refine lv_dup hx hb d_MD_step_86 rfl ?_
                        refine fh_get hx hb hG C_MD iG_MD hown hK hP km_12 2 (by decide) gm675 rfl d_MD_step_87 ?_
                        refine lv_aload_n hx hb d_MD_step_90 rfl (lv_at hl 1 rfl) ?_
                        refine fh_get hx hb hG C_MD iG_MD hown hK hP km_12 26 (by decide) gm699 rfl d_MD_step_91 ?_
                        rw [v26]
                        refine lv_if_eq (tgt := 101) hx hb d_MD_step_94 (by decide) (fun c_18 => ?_) (fun c_18 => ?_)
                        · skip
                          exact absurd c_18 (by decide)
                        · skip
                          refine lv_iconst (v := 0) hx hb d_MD_step_97 (by decide) ?_
                          refine lv_goto (tgt := 107) hx hb d_MD_step_98 (by decide) ?_
                          refine lv_iadd hx hb d_MD_step_107 ?_
                          refine fh_put hx hb hG C_MD iG_MD hown hK hP hS km_12 2 (by decide) gm675 rfl (v := .int (((sc' 2)) + 0)) rfl rfl (Nat.le_of_ble_eq_true rfl) d_MD_step_108 (fun H locs hP hS => ?_)
                          obtain ⟨h_19, eh_20⟩ : ∃ z : fh_H, z = va_up h' md (some (.inr (7, [.int (sc' 0), .int (sc' 1), .int (((sc' 2)) + 0), .int (sc' 3), .int (sc' 4), .int (sc' 5), .int (sc' 6), .int (sc' 7), .int (sc' 8), .ref (ad 9), .int (sc' 10), .ref (ad 11), .ref (ad 12), .ref (ad 13), .int (sc' 14), .int (sc' 15), .ref (ad 16), .ref (ad 17), .ref (ad 18), .ref (ad 19), .ref (ad 20), .int (sc' 21), .ref (ad 22), .ref (ad 23), .int (sc' 24), .int (sc' 25), .int (sc' 26), .int (sc' 27), .int (sc' 28)]))) := ⟨_, rfl⟩
                          have hP : fh_P E.1 vwCl A h_19 H := by rw [eh_20]; exact hP
                          obtain ⟨sc_21, es_22⟩ : ∃ z : Nat → Int32, z = upd sc' 2 ((((sc' 2)) + 0)) := ⟨_, rfl⟩
                          have m_23 : MDs E h_19 md ad sc_21 ar' := by rw [es_22]; exact hM'.setS (by rw [eh_20]; rfl)
                          have K_24 : KM h h_19 md ad := (K').trans (KM.upS eh_20)
                          have km_25 : h_19 md = some (.inr (7, [.int (sc_21 0), .int (sc_21 1), .int (sc_21 2), .int (sc_21 3), .int (sc_21 4), .int (sc_21 5), .int (sc_21 6), .int (sc_21 7), .int (sc_21 8), .ref (ad 9), .int (sc_21 10), .ref (ad 11), .ref (ad 12), .ref (ad 13), .int (sc_21 14), .int (sc_21 15), .ref (ad 16), .ref (ad 17), .ref (ad 18), .ref (ad 19), .ref (ad 20), .int (sc_21 21), .ref (ad 22), .ref (ad 23), .int (sc_21 24), .int (sc_21 25), .int (sc_21 26), .int (sc_21 27), .int (sc_21 28)])) := m_23.1
                          refine lv_aload_n hx hb d_MD_step_111 rfl (lv_at hl 1 rfl) ?_
                          refine lv_iload_n hx hb d_MD_step_112 rfl (lv_at hl 0 rfl) ?_
                          refine fh_put hx hb hG C_MD iG_MD hown hK hP hS km_25 1 (by decide) gm674 rfl (v := .int (nI (a0 + n))) rfl rfl (Nat.le_of_ble_eq_true rfl) d_MD_step_113 (fun H locs hP hS => ?_)
                          obtain ⟨h_26, eh_27⟩ : ∃ z : fh_H, z = va_up h_19 md (some (.inr (7, [.int (sc_21 0), .int (nI (a0 + n)), .int (sc_21 2), .int (sc_21 3), .int (sc_21 4), .int (sc_21 5), .int (sc_21 6), .int (sc_21 7), .int (sc_21 8), .ref (ad 9), .int (sc_21 10), .ref (ad 11), .ref (ad 12), .ref (ad 13), .int (sc_21 14), .int (sc_21 15), .ref (ad 16), .ref (ad 17), .ref (ad 18), .ref (ad 19), .ref (ad 20), .int (sc_21 21), .ref (ad 22), .ref (ad 23), .int (sc_21 24), .int (sc_21 25), .int (sc_21 26), .int (sc_21 27), .int (sc_21 28)]))) := ⟨_, rfl⟩
                          have hP : fh_P E.1 vwCl A h_26 H := by rw [eh_27]; exact hP
                          obtain ⟨sc_28, es_29⟩ : ∃ z : Nat → Int32, z = upd sc_21 1 ((nI (a0 + n))) := ⟨_, rfl⟩
                          have m_30 : MDs E h_26 md ad sc_28 ar' := by rw [es_29]; exact m_23.setS (by rw [eh_27]; rfl)
                          have K_31 : KM h h_26 md ad := (K_24).trans (KM.upS eh_27)
                          have km_32 : h_26 md = some (.inr (7, [.int (sc_28 0), .int (sc_28 1), .int (sc_28 2), .int (sc_28 3), .int (sc_28 4), .int (sc_28 5), .int (sc_28 6), .int (sc_28 7), .int (sc_28 8), .ref (ad 9), .int (sc_28 10), .ref (ad 11), .ref (ad 12), .ref (ad 13), .int (sc_28 14), .int (sc_28 15), .ref (ad 16), .ref (ad 17), .ref (ad 18), .ref (ad 19), .ref (ad 20), .int (sc_28 21), .ref (ad 22), .ref (ad 23), .int (sc_28 24), .int (sc_28 25), .int (sc_28 26), .int (sc_28 27), .int (sc_28 28)])) := m_30.1
                          have hR9 : RM sc_28 ar' (ptM (bgM T) (nI left)) := by rw [es_29, es_22]; exact hRb.pt (by rw [etb, nI_add, hx0]) (by rw [hRb.1.2.1, Int32.add_zero])
                          refine lv_goto (tgt := 37) hx hb d_MD_step_116 (by decide) ?_
                          refine lv_aload_n hx hb d_MD_step_37 rfl (lv_at hl 1 rfl) ?_
                          refine fh_get hx hb hG C_MD iG_MD hown hK hP km_32 1 (by decide) gm674 rfl d_MD_step_38 ?_
                          rw [show sc_28 1 = nI (a0 + n) by rw [es_29, upd_eq]]
                          refine lv_iload_n hx hb d_MD_step_41 rfl (lv_at hl 0 rfl) ?_
                          refine lv_icmp_ge (tgt := 119) hx hb d_MD_step_42 (by decide) (fun c_33 => ?_) (fun c_33 => ?_)
                          · skip
                            refine lv_aload_n hx hb d_MD_step_119 rfl (lv_at hl 1 rfl) ?_
                            refine fh_get hx hb hG C_MD iG_MD hown hK hP km_32 1 (by decide) gm674 rfl d_MD_step_120 ?_
                            exact fh_iret hx hb hr hlocks (Nat.le_of_ble_eq_true rfl) (Nat.le_of_ble_eq_true rfl) hP hS ⟨by rw [← hpa, paM_p hl0 hr8 (by rw [hu8]; exact hlt)]; exact congrArg (fun z => some (Value.int z)) hR9.1.1, sc_28, ar', m_30, by rw [← hpa, paM_p hl0 hr8 (by rw [hu8]; exact hlt)]; exact hR9, by rw [es_29, upd_ne (by decide), es_22, upd_ne (by decide)]; exact C0, K_31⟩ d_MD_step_123
                          · skip
                            exact absurd (nI_le (Nat.le_refl _) (by omega)) c_33
                      · skip
                        have hge : u9 ≤ left := by
                          by_cases z : u9 ≤ left
                          · exact z
                          · exact absurd (nI_lt (by omega) (by omega)) c_17
                        refine lv_aload_n hx hb d_MD_step_78 rfl (lv_at hl 1 rfl) ?_
                        refine fh_callV (C := R_MD) (y := y_MD_endOne) (bytes := b_MD_endOne) (maxL := 2) (ret := none) (index := 153) (As := []) (rest := []) ⟨hx, hb, hml, hown, hG⟩ (c_MD_endOne l E h' md ad sc' ar' hM' (bgM T) tt hRb hIb r8 hr8) (cwV 0 hG (gV gm825 gm827 gs_MD_endOne gm8 gm828) rfl rfl rfl ⟨rfl, hdy_MD_endOne⟩ ⟨Nat.le_of_ble_eq_true rfl, Nat.le_of_ble_eq_true rfl⟩) C_MD.1 km_12 hK hZ hP hS hA rfl hl.1 rfl (Nat.le_of_ble_eq_true rfl) d_MD_step_79 ⟨Nat.le_of_ble_eq_true rfl, Nat.le_of_ble_eq_true rfl⟩ (fun r h_34 H locs hq9 hP hS => ?_)
                        obtain ⟨rfl, sc_35, ar_36, m_37, R_38, c_40, a_41, b_42, K_39⟩ := hq9
                        have K_43 : KM h h_34 md ad := (K').trans K_39
                        refine W.eq (g2 := F0 m 82 ls []) rfl ?_
                        refine lv_goto (tgt := 37) hx hb d_MD_step_82 (by decide) ?_
                        obtain ⟨hIe, hse, hce⟩ := hIb.end hr8 hu9
                        exact ih (left - u9) (x0 + u9) (endM (bgM T)) _ sc_35 ar_36 h_34 H locs ls (by omega) hl hP hS m_37 R_38 hIe (by rw [endM_tm hr8, etb, hu9, nI_add]) (by omega) (by rw [← hpa, paM_e hl0 hr8 (by rw [hu8]; omega), hu8]) (c_40.trans C0) K_43
                  · skip
                    exact absurd c_15 (by decide)
                | none =>
                  have v26 := hRT.2.2.2.2.2.2.2.1 hsv
                  rw [v26]
                  refine lv_if_ne (tgt := 63) hx hb d_MD_step_49 (by decide) (fun c_44 => ?_) (fun c_44 => ?_)
                  · skip
                    exact absurd rfl c_44
                  · skip
                    refine lv_aload_n hx hb d_MD_step_52 rfl (lv_at hl 1 rfl) ?_
                    refine fh_get hx hb hG C_MD iG_MD hown hK hP km_12 15 (by decide) gm688 rfl d_MD_step_53 ?_
                    rw [hRT.2.2.2.2.1.1]
                    have hq4 := hIT.q40
                    by_cases hqe : T.q = []
                    · skip
                      refine lv_if_le (tgt := 63) hx hb d_MD_step_56 (by decide) (fun c_45 => ?_) (fun c_45 => ?_)
                      · skip
                        have eb8 := bgM_n hsv hqe
                        have hnn : (bgM T).sv = none := by rw [eb8]; exact hsv
                        have hRb : RM sc' ar' (bgM T) := by rw [eb8]; exact hRT
                        have C0 : sc' 0 = 0 := h0
                        refine lv_aload_n hx hb d_MD_step_63 rfl (lv_at hl 1 rfl) ?_
                        refine fh_get hx hb hG C_MD iG_MD hown hK hP km_12 26 (by decide) gm699 rfl d_MD_step_64 ?_
                        rw [v26]
                        refine lv_if_eq (tgt := 85) hx hb d_MD_step_67 (by decide) (fun c_46 => ?_) (fun c_46 => ?_)
                        · skip
                          refine lv_aload_n hx hb d_MD_step_85 rfl (lv_at hl 1 rfl) ?_
                          refine lv_dup hx hb d_MD_step_86 rfl ?_
                          refine fh_get hx hb hG C_MD iG_MD hown hK hP km_12 2 (by decide) gm675 rfl d_MD_step_87 ?_
                          refine lv_aload_n hx hb d_MD_step_90 rfl (lv_at hl 1 rfl) ?_
                          refine fh_get hx hb hG C_MD iG_MD hown hK hP km_12 26 (by decide) gm699 rfl d_MD_step_91 ?_
                          rw [v26]
                          refine lv_if_eq (tgt := 101) hx hb d_MD_step_94 (by decide) (fun c_47 => ?_) (fun c_47 => ?_)
                          · skip
                            refine lv_iload_n hx hb d_MD_step_101 rfl (lv_at hl 0 rfl) ?_
                            refine lv_aload_n hx hb d_MD_step_102 rfl (lv_at hl 1 rfl) ?_
                            refine fh_get hx hb hG C_MD iG_MD hown hK hP km_12 1 (by decide) gm674 rfl d_MD_step_103 ?_
                            rw [e1]
                            refine lv_isub hx hb d_MD_step_106 ?_
                            refine W.eq (g2 := F0 m 107 ls [.int (nI left), .int (sc' 2), .ref md]) (by rw [← hx0, ← nI_add, Int32.add_comm, Int32.add_sub_cancel]) ?_
                            refine lv_iadd hx hb d_MD_step_107 ?_
                            refine fh_put hx hb hG C_MD iG_MD hown hK hP hS km_12 2 (by decide) gm675 rfl (v := .int (((sc' 2)) + ((nI left)))) rfl rfl (Nat.le_of_ble_eq_true rfl) d_MD_step_108 (fun H locs hP hS => ?_)
                            obtain ⟨h_48, eh_49⟩ : ∃ z : fh_H, z = va_up h' md (some (.inr (7, [.int (sc' 0), .int (sc' 1), .int (((sc' 2)) + ((nI left))), .int (sc' 3), .int (sc' 4), .int (sc' 5), .int (sc' 6), .int (sc' 7), .int (sc' 8), .ref (ad 9), .int (sc' 10), .ref (ad 11), .ref (ad 12), .ref (ad 13), .int (sc' 14), .int (sc' 15), .ref (ad 16), .ref (ad 17), .ref (ad 18), .ref (ad 19), .ref (ad 20), .int (sc' 21), .ref (ad 22), .ref (ad 23), .int (sc' 24), .int (sc' 25), .int (sc' 26), .int (sc' 27), .int (sc' 28)]))) := ⟨_, rfl⟩
                            have hP : fh_P E.1 vwCl A h_48 H := by rw [eh_49]; exact hP
                            obtain ⟨sc_50, es_51⟩ : ∃ z : Nat → Int32, z = upd sc' 2 ((((sc' 2)) + ((nI left)))) := ⟨_, rfl⟩
                            have m_52 : MDs E h_48 md ad sc_50 ar' := by rw [es_51]; exact hM'.setS (by rw [eh_49]; rfl)
                            have K_53 : KM h h_48 md ad := (K').trans (KM.upS eh_49)
                            have km_54 : h_48 md = some (.inr (7, [.int (sc_50 0), .int (sc_50 1), .int (sc_50 2), .int (sc_50 3), .int (sc_50 4), .int (sc_50 5), .int (sc_50 6), .int (sc_50 7), .int (sc_50 8), .ref (ad 9), .int (sc_50 10), .ref (ad 11), .ref (ad 12), .ref (ad 13), .int (sc_50 14), .int (sc_50 15), .ref (ad 16), .ref (ad 17), .ref (ad 18), .ref (ad 19), .ref (ad 20), .int (sc_50 21), .ref (ad 22), .ref (ad 23), .int (sc_50 24), .int (sc_50 25), .int (sc_50 26), .int (sc_50 27), .int (sc_50 28)])) := m_52.1
                            refine lv_aload_n hx hb d_MD_step_111 rfl (lv_at hl 1 rfl) ?_
                            refine lv_iload_n hx hb d_MD_step_112 rfl (lv_at hl 0 rfl) ?_
                            refine fh_put hx hb hG C_MD iG_MD hown hK hP hS km_54 1 (by decide) gm674 rfl (v := .int (nI (a0 + n))) rfl rfl (Nat.le_of_ble_eq_true rfl) d_MD_step_113 (fun H locs hP hS => ?_)
                            obtain ⟨h_55, eh_56⟩ : ∃ z : fh_H, z = va_up h_48 md (some (.inr (7, [.int (sc_50 0), .int (nI (a0 + n)), .int (sc_50 2), .int (sc_50 3), .int (sc_50 4), .int (sc_50 5), .int (sc_50 6), .int (sc_50 7), .int (sc_50 8), .ref (ad 9), .int (sc_50 10), .ref (ad 11), .ref (ad 12), .ref (ad 13), .int (sc_50 14), .int (sc_50 15), .ref (ad 16), .ref (ad 17), .ref (ad 18), .ref (ad 19), .ref (ad 20), .int (sc_50 21), .ref (ad 22), .ref (ad 23), .int (sc_50 24), .int (sc_50 25), .int (sc_50 26), .int (sc_50 27), .int (sc_50 28)]))) := ⟨_, rfl⟩
                            have hP : fh_P E.1 vwCl A h_55 H := by rw [eh_56]; exact hP
                            obtain ⟨sc_57, es_58⟩ : ∃ z : Nat → Int32, z = upd sc_50 1 ((nI (a0 + n))) := ⟨_, rfl⟩
                            have m_59 : MDs E h_55 md ad sc_57 ar' := by rw [es_58]; exact m_52.setS (by rw [eh_56]; rfl)
                            have K_60 : KM h h_55 md ad := (K_53).trans (KM.upS eh_56)
                            have km_61 : h_55 md = some (.inr (7, [.int (sc_57 0), .int (sc_57 1), .int (sc_57 2), .int (sc_57 3), .int (sc_57 4), .int (sc_57 5), .int (sc_57 6), .int (sc_57 7), .int (sc_57 8), .ref (ad 9), .int (sc_57 10), .ref (ad 11), .ref (ad 12), .ref (ad 13), .int (sc_57 14), .int (sc_57 15), .ref (ad 16), .ref (ad 17), .ref (ad 18), .ref (ad 19), .ref (ad 20), .int (sc_57 21), .ref (ad 22), .ref (ad 23), .int (sc_57 24), .int (sc_57 25), .int (sc_57 26), .int (sc_57 27), .int (sc_57 28)])) := m_59.1
                            have hR9 : RM sc_57 ar' (idM (bgM T) (nI left)) := by rw [es_58, es_51]; exact hRb.id hnn (by rw [etb, nI_add, hx0]) (by rw [hRb.1.2.1])
                            refine lv_goto (tgt := 37) hx hb d_MD_step_116 (by decide) ?_
                            refine lv_aload_n hx hb d_MD_step_37 rfl (lv_at hl 1 rfl) ?_
                            refine fh_get hx hb hG C_MD iG_MD hown hK hP km_61 1 (by decide) gm674 rfl d_MD_step_38 ?_
                            rw [show sc_57 1 = nI (a0 + n) by rw [es_58, upd_eq]]
                            refine lv_iload_n hx hb d_MD_step_41 rfl (lv_at hl 0 rfl) ?_
                            refine lv_icmp_ge (tgt := 119) hx hb d_MD_step_42 (by decide) (fun c_62 => ?_) (fun c_62 => ?_)
                            · skip
                              refine lv_aload_n hx hb d_MD_step_119 rfl (lv_at hl 1 rfl) ?_
                              refine fh_get hx hb hG C_MD iG_MD hown hK hP km_61 1 (by decide) gm674 rfl d_MD_step_120 ?_
                              exact fh_iret hx hb hr hlocks (Nat.le_of_ble_eq_true rfl) (Nat.le_of_ble_eq_true rfl) hP hS ⟨by rw [← hpa, paM_i hl0 hnn]; exact congrArg (fun z => some (Value.int z)) hR9.1.1, sc_57, ar', m_59, by rw [← hpa, paM_i hl0 hnn]; exact hR9, by rw [es_58, upd_ne (by decide), es_51, upd_ne (by decide)]; exact C0, K_60⟩ d_MD_step_123
                            · skip
                              exact absurd (nI_le (Nat.le_refl _) (by omega)) c_62
                          · skip
                            exact absurd rfl c_47
                        · skip
                          exact absurd rfl c_46
                      · skip
                        exact absurd (show nI T.q.length ≤ 0 by rw [hqe]; decide) c_45
                    · skip
                      refine lv_if_le (tgt := 63) hx hb d_MD_step_56 (by decide) (fun c_63 => ?_) (fun c_63 => ?_)
                      · skip
                        exact absurd c_63 (nI_nle (List.length_pos_iff.mpr hqe) (by omega))
                      · skip
                        obtain ⟨k8, r8, hk8, hr8, eq8, eb8⟩ := bgM_sv hIT hsv hqe
                        refine lv_aload_n hx hb d_MD_step_59 rfl (lv_at hl 1 rfl) ?_
                        refine fh_callV (C := R_MD) (y := y_MD_beginOne) (bytes := b_MD_beginOne) (maxL := 3) (ret := none) (index := 150) (As := []) (rest := []) ⟨hx, hb, hml, hown, hG⟩ (c_MD_beginOne l E h' md ad sc' ar' hM' T tt hRT hIT hsv hqe) (cwV 0 hG (gV gm793 gm795 gs_MD_beginOne gm8 gm796) rfl rfl rfl ⟨rfl, hdy_MD_beginOne⟩ ⟨Nat.le_of_ble_eq_true rfl, Nat.le_of_ble_eq_true rfl⟩) C_MD.1 km_12 hK hZ hP hS hA rfl hl.1 rfl (Nat.le_of_ble_eq_true rfl) d_MD_step_60 ⟨Nat.le_of_ble_eq_true rfl, Nat.le_of_ble_eq_true rfl⟩ (fun r h_64 H locs hq9 hP hS => ?_)
                        obtain ⟨rfl, sc_65, ar_66, m_67, R_68, c_70, K_69⟩ := hq9
                        have K_73 : KM h h_64 md ad := (K').trans K_69
                        refine W.eq (g2 := F0 m 63 ls []) rfl ?_
                        have km_74 : h_64 md = some (.inr (7, [.int (sc_65 0), .int (sc_65 1), .int (sc_65 2), .int (sc_65 3), .int (sc_65 4), .int (sc_65 5), .int (sc_65 6), .int (sc_65 7), .int (sc_65 8), .ref (ad 9), .int (sc_65 10), .ref (ad 11), .ref (ad 12), .ref (ad 13), .int (sc_65 14), .int (sc_65 15), .ref (ad 16), .ref (ad 17), .ref (ad 18), .ref (ad 19), .ref (ad 20), .int (sc_65 21), .ref (ad 22), .ref (ad 23), .int (sc_65 24), .int (sc_65 25), .int (sc_65 26), .int (sc_65 27), .int (sc_65 28)])) := m_67.1
                        rw [← eb8] at R_68
                        have C0 : sc_65 0 = 0 := c_70.trans h0
                        obtain ⟨v26, v40, v27⟩ := R_68.2.2.2.2.2.2.2.2.1 r8 hr8
                        obtain ⟨u9, hu9, hu8, hu1, hu4⟩ := hIb.ulu hr8
                        have e27 : sc_65 27 = nI (x0 + u9) := by rw [v27, etb, hu9, nI_add]
                        refine lv_aload_n hx hb d_MD_step_63 rfl (lv_at hl 1 rfl) ?_
                        refine fh_get hx hb hG C_MD iG_MD hown hK hP km_74 26 (by decide) gm699 rfl d_MD_step_64 ?_
                        rw [v26]
                        refine lv_if_eq (tgt := 85) hx hb d_MD_step_67 (by decide) (fun c_75 => ?_) (fun c_75 => ?_)
                        · skip
                          exact absurd c_75 (by decide)
                        · skip
                          refine lv_aload_n hx hb d_MD_step_70 rfl (lv_at hl 1 rfl) ?_
                          refine fh_get hx hb hG C_MD iG_MD hown hK hP km_74 27 (by decide) gm700 rfl d_MD_step_71 ?_
                          rw [e27]
                          refine lv_iload_n hx hb d_MD_step_74 rfl (lv_at hl 0 rfl) ?_
                          refine lv_icmp_gt (tgt := 85) hx hb d_MD_step_75 (by decide) (fun c_76 => ?_) (fun c_76 => ?_)
                          · skip
                            have hlt : left < u9 := by
                              by_cases z : left < u9
                              · exact z
                              · exact absurd (nI_nlt (by omega) (by omega)) (fun w => w c_76)
                            refine lv_aload_n hx hb d_MD_step_85 rfl (lv_at hl 1 rfl) ?_
                            refine lv_dup hx hb d_MD_step_86 rfl ?_
                            refine fh_get hx hb hG C_MD iG_MD hown hK hP km_74 2 (by decide) gm675 rfl d_MD_step_87 ?_
                            refine lv_aload_n hx hb d_MD_step_90 rfl (lv_at hl 1 rfl) ?_
                            refine fh_get hx hb hG C_MD iG_MD hown hK hP km_74 26 (by decide) gm699 rfl d_MD_step_91 ?_
                            rw [v26]
                            refine lv_if_eq (tgt := 101) hx hb d_MD_step_94 (by decide) (fun c_77 => ?_) (fun c_77 => ?_)
                            · skip
                              exact absurd c_77 (by decide)
                            · skip
                              refine lv_iconst (v := 0) hx hb d_MD_step_97 (by decide) ?_
                              refine lv_goto (tgt := 107) hx hb d_MD_step_98 (by decide) ?_
                              refine lv_iadd hx hb d_MD_step_107 ?_
                              refine fh_put hx hb hG C_MD iG_MD hown hK hP hS km_74 2 (by decide) gm675 rfl (v := .int (((sc_65 2)) + 0)) rfl rfl (Nat.le_of_ble_eq_true rfl) d_MD_step_108 (fun H locs hP hS => ?_)
                              obtain ⟨h_78, eh_79⟩ : ∃ z : fh_H, z = va_up h_64 md (some (.inr (7, [.int (sc_65 0), .int (sc_65 1), .int (((sc_65 2)) + 0), .int (sc_65 3), .int (sc_65 4), .int (sc_65 5), .int (sc_65 6), .int (sc_65 7), .int (sc_65 8), .ref (ad 9), .int (sc_65 10), .ref (ad 11), .ref (ad 12), .ref (ad 13), .int (sc_65 14), .int (sc_65 15), .ref (ad 16), .ref (ad 17), .ref (ad 18), .ref (ad 19), .ref (ad 20), .int (sc_65 21), .ref (ad 22), .ref (ad 23), .int (sc_65 24), .int (sc_65 25), .int (sc_65 26), .int (sc_65 27), .int (sc_65 28)]))) := ⟨_, rfl⟩
                              have hP : fh_P E.1 vwCl A h_78 H := by rw [eh_79]; exact hP
                              obtain ⟨sc_80, es_81⟩ : ∃ z : Nat → Int32, z = upd sc_65 2 ((((sc_65 2)) + 0)) := ⟨_, rfl⟩
                              have m_82 : MDs E h_78 md ad sc_80 ar_66 := by rw [es_81]; exact m_67.setS (by rw [eh_79]; rfl)
                              have K_83 : KM h h_78 md ad := (K_73).trans (KM.upS eh_79)
                              have km_84 : h_78 md = some (.inr (7, [.int (sc_80 0), .int (sc_80 1), .int (sc_80 2), .int (sc_80 3), .int (sc_80 4), .int (sc_80 5), .int (sc_80 6), .int (sc_80 7), .int (sc_80 8), .ref (ad 9), .int (sc_80 10), .ref (ad 11), .ref (ad 12), .ref (ad 13), .int (sc_80 14), .int (sc_80 15), .ref (ad 16), .ref (ad 17), .ref (ad 18), .ref (ad 19), .ref (ad 20), .int (sc_80 21), .ref (ad 22), .ref (ad 23), .int (sc_80 24), .int (sc_80 25), .int (sc_80 26), .int (sc_80 27), .int (sc_80 28)])) := m_82.1
                              refine lv_aload_n hx hb d_MD_step_111 rfl (lv_at hl 1 rfl) ?_
                              refine lv_iload_n hx hb d_MD_step_112 rfl (lv_at hl 0 rfl) ?_
                              refine fh_put hx hb hG C_MD iG_MD hown hK hP hS km_84 1 (by decide) gm674 rfl (v := .int (nI (a0 + n))) rfl rfl (Nat.le_of_ble_eq_true rfl) d_MD_step_113 (fun H locs hP hS => ?_)
                              obtain ⟨h_85, eh_86⟩ : ∃ z : fh_H, z = va_up h_78 md (some (.inr (7, [.int (sc_80 0), .int (nI (a0 + n)), .int (sc_80 2), .int (sc_80 3), .int (sc_80 4), .int (sc_80 5), .int (sc_80 6), .int (sc_80 7), .int (sc_80 8), .ref (ad 9), .int (sc_80 10), .ref (ad 11), .ref (ad 12), .ref (ad 13), .int (sc_80 14), .int (sc_80 15), .ref (ad 16), .ref (ad 17), .ref (ad 18), .ref (ad 19), .ref (ad 20), .int (sc_80 21), .ref (ad 22), .ref (ad 23), .int (sc_80 24), .int (sc_80 25), .int (sc_80 26), .int (sc_80 27), .int (sc_80 28)]))) := ⟨_, rfl⟩
                              have hP : fh_P E.1 vwCl A h_85 H := by rw [eh_86]; exact hP
                              obtain ⟨sc_87, es_88⟩ : ∃ z : Nat → Int32, z = upd sc_80 1 ((nI (a0 + n))) := ⟨_, rfl⟩
                              have m_89 : MDs E h_85 md ad sc_87 ar_66 := by rw [es_88]; exact m_82.setS (by rw [eh_86]; rfl)
                              have K_90 : KM h h_85 md ad := (K_83).trans (KM.upS eh_86)
                              have km_91 : h_85 md = some (.inr (7, [.int (sc_87 0), .int (sc_87 1), .int (sc_87 2), .int (sc_87 3), .int (sc_87 4), .int (sc_87 5), .int (sc_87 6), .int (sc_87 7), .int (sc_87 8), .ref (ad 9), .int (sc_87 10), .ref (ad 11), .ref (ad 12), .ref (ad 13), .int (sc_87 14), .int (sc_87 15), .ref (ad 16), .ref (ad 17), .ref (ad 18), .ref (ad 19), .ref (ad 20), .int (sc_87 21), .ref (ad 22), .ref (ad 23), .int (sc_87 24), .int (sc_87 25), .int (sc_87 26), .int (sc_87 27), .int (sc_87 28)])) := m_89.1
                              have hR9 : RM sc_87 ar_66 (ptM (bgM T) (nI left)) := by rw [es_88, es_81]; exact R_68.pt (by rw [etb, nI_add, hx0]) (by rw [R_68.1.2.1, Int32.add_zero])
                              refine lv_goto (tgt := 37) hx hb d_MD_step_116 (by decide) ?_
                              refine lv_aload_n hx hb d_MD_step_37 rfl (lv_at hl 1 rfl) ?_
                              refine fh_get hx hb hG C_MD iG_MD hown hK hP km_91 1 (by decide) gm674 rfl d_MD_step_38 ?_
                              rw [show sc_87 1 = nI (a0 + n) by rw [es_88, upd_eq]]
                              refine lv_iload_n hx hb d_MD_step_41 rfl (lv_at hl 0 rfl) ?_
                              refine lv_icmp_ge (tgt := 119) hx hb d_MD_step_42 (by decide) (fun c_92 => ?_) (fun c_92 => ?_)
                              · skip
                                refine lv_aload_n hx hb d_MD_step_119 rfl (lv_at hl 1 rfl) ?_
                                refine fh_get hx hb hG C_MD iG_MD hown hK hP km_91 1 (by decide) gm674 rfl d_MD_step_120 ?_
                                exact fh_iret hx hb hr hlocks (Nat.le_of_ble_eq_true rfl) (Nat.le_of_ble_eq_true rfl) hP hS ⟨by rw [← hpa, paM_p hl0 hr8 (by rw [hu8]; exact hlt)]; exact congrArg (fun z => some (Value.int z)) hR9.1.1, sc_87, ar_66, m_89, by rw [← hpa, paM_p hl0 hr8 (by rw [hu8]; exact hlt)]; exact hR9, by rw [es_88, upd_ne (by decide), es_81, upd_ne (by decide)]; exact C0, K_90⟩ d_MD_step_123
                              · skip
                                exact absurd (nI_le (Nat.le_refl _) (by omega)) c_92
                          · skip
                            have hge : u9 ≤ left := by
                              by_cases z : u9 ≤ left
                              · exact z
                              · exact absurd (nI_lt (by omega) (by omega)) c_76
                            refine lv_aload_n hx hb d_MD_step_78 rfl (lv_at hl 1 rfl) ?_
                            refine fh_callV (C := R_MD) (y := y_MD_endOne) (bytes := b_MD_endOne) (maxL := 2) (ret := none) (index := 153) (As := []) (rest := []) ⟨hx, hb, hml, hown, hG⟩ (c_MD_endOne l E h_64 md ad sc_65 ar_66 m_67 (bgM T) tt R_68 hIb r8 hr8) (cwV 0 hG (gV gm825 gm827 gs_MD_endOne gm8 gm828) rfl rfl rfl ⟨rfl, hdy_MD_endOne⟩ ⟨Nat.le_of_ble_eq_true rfl, Nat.le_of_ble_eq_true rfl⟩) C_MD.1 km_74 hK hZ hP hS hA rfl hl.1 rfl (Nat.le_of_ble_eq_true rfl) d_MD_step_79 ⟨Nat.le_of_ble_eq_true rfl, Nat.le_of_ble_eq_true rfl⟩ (fun r h_93 H locs hq9 hP hS => ?_)
                            obtain ⟨rfl, sc_94, ar_95, m_96, R_97, c_99, a_100, b_101, K_98⟩ := hq9
                            have K_102 : KM h h_93 md ad := (K_73).trans K_98
                            refine W.eq (g2 := F0 m 82 ls []) rfl ?_
                            refine lv_goto (tgt := 37) hx hb d_MD_step_82 (by decide) ?_
                            obtain ⟨hIe, hse, hce⟩ := hIb.end hr8 hu9
                            exact ih (left - u9) (x0 + u9) (endM (bgM T)) _ sc_94 ar_95 h_93 H locs ls (by omega) hl hP hS m_96 R_97 hIe (by rw [endM_tm hr8, etb, hu9, nI_add]) (by omega) (by rw [← hpa, paM_e hl0 hr8 (by rw [hu8]; omega), hu8]) (c_99.trans C0) K_102
        exact loop 43 n a0 S t _ _ _ _ _ ls (by have := cnt_41 hI; omega) hl hP hS m_8 hR1 hI ea0 rfl rfl c0 K_9
      · skip
        exact absurd (show (0 : Int32) ≤ 0 by decide) c_11
    · skip
      exact absurd (nI_le (b := 1000) hn2 (by decide)) c_3

set_option maxHeartbeats 800000 in
set_option maxRecDepth 100000 in
theorem c_MD_drain (l : Launch) (E : fh_E) (h : fh_H) (md : Nat) (ad : Nat → Nat) (sc : Nat → Int32) (ar : Nat → Nat → Int32) (hM : MDs E h md ad sc ar) (S : mS) (t : Nat) (hR : RM sc ar S) (hI : Inv S t)  : fh_Met l y_MD_drain w_MD_drain ({ frames := 5, cells := 0, slots := 0, locals := 111 }) E [.ref md] h (fun r h1 => r = some (.int ((drM 41 S).tm - S.tm)) ∧ ∃ sc1 ar1, MDs E h1 md ad sc1 ar1 ∧ RM sc1 ar1 (drM 41 S) ∧ sc1 0 = 0 ∧ KM h h1 md ad) 0 0 := by
  refine fh_ofW (cc := b_MD_drain) (maxL := 2) (ret := (some .int)) (by decide) rfl (Nat.le_of_ble_eq_true rfl) ?_
  intro p e s m below meth c A ls hx hb hr hml hown hts hlocks hname hnoh hadm hA hK hZ hP hS hl
  have hG : ∀ w ∈ G, w.before _ s = true := fun w hw => hts w (List.mem_cons_of_mem _ hw)
  have hown : s.vm.findClass R_MD = some m.cls := hown
  have hl : lv_has ls 2 [(0, .ref md)] := hl
  have hR0 := hR
  obtain ⟨⟨a1, a2, a3, a4, a5, a6, a7, a8⟩, a9, ⟨a10, a11, a12⟩, a14, ⟨a15, a16⟩, ⟨a21, a22⟩, ⟨a24, a25⟩, a26, a27, a28⟩ := hR
  have i1 := hI.bs10
  have i2 := hI.q40
  have i3 := hI.ca6
  have km_1 : h md = some (.inr (7, [.int (sc 0), .int (sc 1), .int (sc 2), .int (sc 3), .int (sc 4), .int (sc 5), .int (sc 6), .int (sc 7), .int (sc 8), .ref (ad 9), .int (sc 10), .ref (ad 11), .ref (ad 12), .ref (ad 13), .int (sc 14), .int (sc 15), .ref (ad 16), .ref (ad 17), .ref (ad 18), .ref (ad 19), .ref (ad 20), .int (sc 21), .ref (ad 22), .ref (ad 23), .int (sc 24), .int (sc 25), .int (sc 26), .int (sc 27), .int (sc 28)])) := hM.1
  refine lv_aload_n hx hb d_MD_drain_0 rfl (lv_at hl 0 rfl) ?_
  refine lv_iconst (v := 0) hx hb d_MD_drain_1 (by decide) ?_
  refine fh_put hx hb hG C_MD iG_MD hown hK hP hS km_1 0 (by decide) gm673 rfl (v := .int 0) rfl rfl (Nat.le_of_ble_eq_true rfl) d_MD_drain_2 (fun H locs hP hS => ?_)
  obtain ⟨h_2, eh_3⟩ : ∃ z : fh_H, z = va_up h md (some (.inr (7, [.int 0, .int (sc 1), .int (sc 2), .int (sc 3), .int (sc 4), .int (sc 5), .int (sc 6), .int (sc 7), .int (sc 8), .ref (ad 9), .int (sc 10), .ref (ad 11), .ref (ad 12), .ref (ad 13), .int (sc 14), .int (sc 15), .ref (ad 16), .ref (ad 17), .ref (ad 18), .ref (ad 19), .ref (ad 20), .int (sc 21), .ref (ad 22), .ref (ad 23), .int (sc 24), .int (sc 25), .int (sc 26), .int (sc 27), .int (sc 28)]))) := ⟨_, rfl⟩
  have hP : fh_P E.1 vwCl A h_2 H := by rw [eh_3]; exact hP
  obtain ⟨sc_4, es_5⟩ : ∃ z : Nat → Int32, z = upd sc 0 (0) := ⟨_, rfl⟩
  have m_6 : MDs E h_2 md ad sc_4 ar := by rw [es_5]; exact hM.setS (by rw [eh_3]; rfl)
  have K_7 : KM h h_2 md ad := (KM.rfl).trans (KM.upS eh_3)
  have km_8 : h_2 md = some (.inr (7, [.int (sc_4 0), .int (sc_4 1), .int (sc_4 2), .int (sc_4 3), .int (sc_4 4), .int (sc_4 5), .int (sc_4 6), .int (sc_4 7), .int (sc_4 8), .ref (ad 9), .int (sc_4 10), .ref (ad 11), .ref (ad 12), .ref (ad 13), .int (sc_4 14), .int (sc_4 15), .ref (ad 16), .ref (ad 17), .ref (ad 18), .ref (ad 19), .ref (ad 20), .int (sc_4 21), .ref (ad 22), .ref (ad 23), .int (sc_4 24), .int (sc_4 25), .int (sc_4 26), .int (sc_4 27), .int (sc_4 28)])) := m_6.1
  have hR1 : RM sc_4 ar S := by rw [es_5]; exact hR0.code
  have c0 : sc_4 0 = 0 := by rw [es_5, upd_eq]
  refine lv_aload_n hx hb d_MD_drain_5 rfl (lv_at hl 0 rfl) ?_
  refine fh_get hx hb hG C_MD iG_MD hown hK hP km_8 1 (by decide) gm674 rfl d_MD_drain_6 ?_
  rw [hR1.1.1]
  refine lv_istore_n (lv' := [(1, .int (S.tm)), (0, .ref md)]) hx hb d_MD_drain_9 rfl hl (by decide) rfl (fun ls hl => ?_)
  have hl : lv_has ls 2 [(1, .int S.tm), (0, .ref md)] := hl
  have loop : ∀ (f : Nat) (T : mS) (tt : Nat) (sc' : Nat → Int32) (ar' : Nat → Nat → Int32) (h' : fh_H) (H : Heap) (locs : List Loc) (ls : Array Slot), cnt T ≤ f → lv_has ls 2 [(1, .int S.tm), (0, .ref md)] → fh_P E.1 vwCl A h' H → va_S A s.heap H locs → MDs E h' md ad sc' ar' → RM sc' ar' T → Inv T tt → drM f T = drM 41 S → sc' 0 = 0 → KM h h' md ad → W p l e ({ frames := 5, cells := 0, slots := 0, locals := 111 }) s m ([.ref md] : List Value).toArray below meth c H locs 0 0 (MQ below (fh_Post E (fun r h1 => r = some (.int ((drM 41 S).tm - S.tm)) ∧ ∃ sc1 ar1, MDs E h1 md ad sc1 ar1 ∧ RM sc1 ar1 (drM 41 S) ∧ sc1 0 = 0 ∧ KM h h1 md ad) A) ([.ref md] : List Value).toArray s 0 0 A) (F0 m 10 ls []) := by
    intro f
    induction f with
    | zero =>
      intro T tt sc' ar' h' H locs ls hcn hl hP hS hM' hRT hIT hdr h0 K'
      have km_9 : h' md = some (.inr (7, [.int (sc' 0), .int (sc' 1), .int (sc' 2), .int (sc' 3), .int (sc' 4), .int (sc' 5), .int (sc' 6), .int (sc' 7), .int (sc' 8), .ref (ad 9), .int (sc' 10), .ref (ad 11), .ref (ad 12), .ref (ad 13), .int (sc' 14), .int (sc' 15), .ref (ad 16), .ref (ad 17), .ref (ad 18), .ref (ad 19), .ref (ad 20), .int (sc' 21), .ref (ad 22), .ref (ad 23), .int (sc' 24), .int (sc' 25), .int (sc' 26), .int (sc' 27), .int (sc' 28)])) := hM'.1
      have hc0 : cnt T = 0 := by omega
      obtain ⟨hsv, hqe⟩ := cnt_0 hc0
      have v26 := hRT.2.2.2.2.2.2.2.1 hsv
      have v15 : sc' 15 = 0 := by rw [hRT.2.2.2.2.1.1, hqe]; rfl
      have eT : drM 41 S = T := hdr.symm
      refine lv_aload_n hx hb d_MD_drain_10 rfl (lv_at hl 1 rfl) ?_
      refine fh_get hx hb hG C_MD iG_MD hown hK hP km_9 26 (by decide) gm699 rfl d_MD_drain_11 ?_
      rw [v26]
      refine lv_if_ne (tgt := 24) hx hb d_MD_drain_14 (by decide) (fun c_10 => ?_) (fun c_10 => ?_)
      · skip
        exact absurd rfl c_10
      · skip
        refine lv_aload_n hx hb d_MD_drain_17 rfl (lv_at hl 1 rfl) ?_
        refine fh_get hx hb hG C_MD iG_MD hown hK hP km_9 15 (by decide) gm688 rfl d_MD_drain_18 ?_
        rw [v15]
        refine lv_if_le (tgt := 42) hx hb d_MD_drain_21 (by decide) (fun c_11 => ?_) (fun c_11 => ?_)
        · skip
          refine lv_aload_n hx hb d_MD_drain_42 rfl (lv_at hl 1 rfl) ?_
          refine fh_get hx hb hG C_MD iG_MD hown hK hP km_9 1 (by decide) gm674 rfl d_MD_drain_43 ?_
          rw [hRT.1.1]
          refine lv_iload_n hx hb d_MD_drain_46 rfl (lv_at hl 0 rfl) ?_
          refine lv_isub hx hb d_MD_drain_47 ?_
          exact fh_iret hx hb hr hlocks (Nat.le_of_ble_eq_true rfl) (Nat.le_of_ble_eq_true rfl) hP hS ⟨by rw [eT], sc', ar', hM', by rw [eT]; exact hRT, h0, K'⟩ d_MD_drain_48
        · skip
          exact absurd (show (0 : Int32) ≤ 0 by decide) c_11
    | succ f ih =>
      intro T tt sc' ar' h' H locs ls hcn hl hP hS hM' hRT hIT hdr h0 K'
      have km_12 : h' md = some (.inr (7, [.int (sc' 0), .int (sc' 1), .int (sc' 2), .int (sc' 3), .int (sc' 4), .int (sc' 5), .int (sc' 6), .int (sc' 7), .int (sc' 8), .ref (ad 9), .int (sc' 10), .ref (ad 11), .ref (ad 12), .ref (ad 13), .int (sc' 14), .int (sc' 15), .ref (ad 16), .ref (ad 17), .ref (ad 18), .ref (ad 19), .ref (ad 20), .int (sc' 21), .ref (ad 22), .ref (ad 23), .int (sc' 24), .int (sc' 25), .int (sc' 26), .int (sc' 27), .int (sc' 28)])) := hM'.1
      by_cases hc0 : cnt T = 0
      · skip
        obtain ⟨hsv, hqe⟩ := cnt_0 hc0
        have v26 := hRT.2.2.2.2.2.2.2.1 hsv
        have v15 : sc' 15 = 0 := by rw [hRT.2.2.2.2.1.1, hqe]; rfl
        have eT : drM 41 S = T := by rw [← hdr]; exact if_pos hc0
        refine lv_aload_n hx hb d_MD_drain_10 rfl (lv_at hl 1 rfl) ?_
        refine fh_get hx hb hG C_MD iG_MD hown hK hP km_12 26 (by decide) gm699 rfl d_MD_drain_11 ?_
        rw [v26]
        refine lv_if_ne (tgt := 24) hx hb d_MD_drain_14 (by decide) (fun c_13 => ?_) (fun c_13 => ?_)
        · skip
          exact absurd rfl c_13
        · skip
          refine lv_aload_n hx hb d_MD_drain_17 rfl (lv_at hl 1 rfl) ?_
          refine fh_get hx hb hG C_MD iG_MD hown hK hP km_12 15 (by decide) gm688 rfl d_MD_drain_18 ?_
          rw [v15]
          refine lv_if_le (tgt := 42) hx hb d_MD_drain_21 (by decide) (fun c_14 => ?_) (fun c_14 => ?_)
          · skip
            refine lv_aload_n hx hb d_MD_drain_42 rfl (lv_at hl 1 rfl) ?_
            refine fh_get hx hb hG C_MD iG_MD hown hK hP km_12 1 (by decide) gm674 rfl d_MD_drain_43 ?_
            rw [hRT.1.1]
            refine lv_iload_n hx hb d_MD_drain_46 rfl (lv_at hl 0 rfl) ?_
            refine lv_isub hx hb d_MD_drain_47 ?_
            exact fh_iret hx hb hr hlocks (Nat.le_of_ble_eq_true rfl) (Nat.le_of_ble_eq_true rfl) hP hS ⟨by rw [eT], sc', ar', hM', by rw [eT]; exact hRT, h0, K'⟩ d_MD_drain_48
          · skip
            exact absurd (show (0 : Int32) ≤ 0 by decide) c_14
      · skip
        obtain ⟨hIb, hcb, hnb9⟩ := hIT.bg
        have hdr2 : drM f (nextM T) = drM 41 S := by rw [← hdr]; exact (if_neg hc0).symm
        refine lv_aload_n hx hb d_MD_drain_10 rfl (lv_at hl 1 rfl) ?_
        refine fh_get hx hb hG C_MD iG_MD hown hK hP km_12 26 (by decide) gm699 rfl d_MD_drain_11 ?_
        cases hsv : T.sv with
        | some r8 =>
          have v26 := (hRT.2.2.2.2.2.2.2.2.1 r8 hsv).1
          rw [v26]
          refine lv_if_ne (tgt := 24) hx hb d_MD_drain_14 (by decide) (fun c_15 => ?_) (fun c_15 => ?_)
          · skip
            have eb8 := bgM_s hsv
            have hr8 : (bgM T).sv = some r8 := by rw [eb8]; exact hsv
            have hRb : RM sc' ar' (bgM T) := by rw [eb8]; exact hRT
            have C0 : sc' 0 = 0 := h0
            refine lv_aload_n hx hb d_MD_drain_24 rfl (lv_at hl 1 rfl) ?_
            refine fh_get hx hb hG C_MD iG_MD hown hK hP km_12 26 (by decide) gm699 rfl d_MD_drain_25 ?_
            rw [v26]
            refine lv_if_ne (tgt := 35) hx hb d_MD_drain_28 (by decide) (fun c_16 => ?_) (fun c_16 => ?_)
            · skip
              refine lv_aload_n hx hb d_MD_drain_35 rfl (lv_at hl 1 rfl) ?_
              refine fh_callV (C := R_MD) (y := y_MD_endOne) (bytes := b_MD_endOne) (maxL := 2) (ret := none) (index := 153) (As := []) (rest := []) ⟨hx, hb, hml, hown, hG⟩ (c_MD_endOne l E h' md ad sc' ar' hM' (bgM T) tt hRb hIb r8 hr8) (cwV 0 hG (gV gm825 gm827 gs_MD_endOne gm8 gm828) rfl rfl rfl ⟨rfl, hdy_MD_endOne⟩ ⟨Nat.le_of_ble_eq_true rfl, Nat.le_of_ble_eq_true rfl⟩) C_MD.1 km_12 hK hZ hP hS hA rfl hl.1 rfl (Nat.le_of_ble_eq_true rfl) d_MD_drain_36 ⟨Nat.le_of_ble_eq_true rfl, Nat.le_of_ble_eq_true rfl⟩ (fun r h_17 H locs hq9 hP hS => ?_)
              obtain ⟨rfl, sc_18, ar_19, m_20, R_21, c_23, a_24, b_25, K_22⟩ := hq9
              have K_26 : KM h h_17 md ad := (K').trans K_22
              refine W.eq (g2 := F0 m 39 ls []) rfl ?_
              refine lv_goto (tgt := 10) hx hb d_MD_drain_39 (by decide) ?_
              obtain ⟨u9, hu9, -, -, -⟩ := hIb.ulu hr8
              obtain ⟨hIe, hse, hce⟩ := hIb.end hr8 hu9
              exact ih (nextM T) _ sc_18 ar_19 h_17 H locs ls (by show cnt (endM (bgM T)) ≤ f; omega) hl hP hS m_20 R_21 hIe hdr2 (c_23.trans C0) K_26
            · skip
              exact absurd c_16 (by decide)
          · skip
            exact absurd c_15 (by decide)
        | none =>
          have v26 := hRT.2.2.2.2.2.2.2.1 hsv
          have hqe : T.q ≠ [] := (cnt_w hc0).resolve_left (fun z => z hsv)
          have hq4 := hIT.q40
          obtain ⟨k8, r8, hk8, hr8, eq8, eb8⟩ := bgM_sv hIT hsv hqe
          rw [v26]
          refine lv_if_ne (tgt := 24) hx hb d_MD_drain_14 (by decide) (fun c_27 => ?_) (fun c_27 => ?_)
          · skip
            exact absurd rfl c_27
          · skip
            refine lv_aload_n hx hb d_MD_drain_17 rfl (lv_at hl 1 rfl) ?_
            refine fh_get hx hb hG C_MD iG_MD hown hK hP km_12 15 (by decide) gm688 rfl d_MD_drain_18 ?_
            rw [hRT.2.2.2.2.1.1]
            refine lv_if_le (tgt := 42) hx hb d_MD_drain_21 (by decide) (fun c_28 => ?_) (fun c_28 => ?_)
            · skip
              exact absurd c_28 (nI_nle (List.length_pos_iff.mpr hqe) (by omega))
            · skip
              refine lv_aload_n hx hb d_MD_drain_24 rfl (lv_at hl 1 rfl) ?_
              refine fh_get hx hb hG C_MD iG_MD hown hK hP km_12 26 (by decide) gm699 rfl d_MD_drain_25 ?_
              rw [v26]
              refine lv_if_ne (tgt := 35) hx hb d_MD_drain_28 (by decide) (fun c_29 => ?_) (fun c_29 => ?_)
              · skip
                exact absurd rfl c_29
              · skip
                refine lv_aload_n hx hb d_MD_drain_31 rfl (lv_at hl 1 rfl) ?_
                refine fh_callV (C := R_MD) (y := y_MD_beginOne) (bytes := b_MD_beginOne) (maxL := 3) (ret := none) (index := 150) (As := []) (rest := []) ⟨hx, hb, hml, hown, hG⟩ (c_MD_beginOne l E h' md ad sc' ar' hM' T tt hRT hIT hsv hqe) (cwV 0 hG (gV gm793 gm795 gs_MD_beginOne gm8 gm796) rfl rfl rfl ⟨rfl, hdy_MD_beginOne⟩ ⟨Nat.le_of_ble_eq_true rfl, Nat.le_of_ble_eq_true rfl⟩) C_MD.1 km_12 hK hZ hP hS hA rfl hl.1 rfl (Nat.le_of_ble_eq_true rfl) d_MD_drain_32 ⟨Nat.le_of_ble_eq_true rfl, Nat.le_of_ble_eq_true rfl⟩ (fun r h_30 H locs hq9 hP hS => ?_)
                obtain ⟨rfl, sc_31, ar_32, m_33, R_34, c_36, K_35⟩ := hq9
                have K_39 : KM h h_30 md ad := (K').trans K_35
                refine W.eq (g2 := F0 m 35 ls []) rfl ?_
                have km_40 : h_30 md = some (.inr (7, [.int (sc_31 0), .int (sc_31 1), .int (sc_31 2), .int (sc_31 3), .int (sc_31 4), .int (sc_31 5), .int (sc_31 6), .int (sc_31 7), .int (sc_31 8), .ref (ad 9), .int (sc_31 10), .ref (ad 11), .ref (ad 12), .ref (ad 13), .int (sc_31 14), .int (sc_31 15), .ref (ad 16), .ref (ad 17), .ref (ad 18), .ref (ad 19), .ref (ad 20), .int (sc_31 21), .ref (ad 22), .ref (ad 23), .int (sc_31 24), .int (sc_31 25), .int (sc_31 26), .int (sc_31 27), .int (sc_31 28)])) := m_33.1
                rw [← eb8] at R_34
                have C0 : sc_31 0 = 0 := c_36.trans h0
                refine lv_aload_n hx hb d_MD_drain_35 rfl (lv_at hl 1 rfl) ?_
                refine fh_callV (C := R_MD) (y := y_MD_endOne) (bytes := b_MD_endOne) (maxL := 2) (ret := none) (index := 153) (As := []) (rest := []) ⟨hx, hb, hml, hown, hG⟩ (c_MD_endOne l E h_30 md ad sc_31 ar_32 m_33 (bgM T) tt R_34 hIb r8 hr8) (cwV 0 hG (gV gm825 gm827 gs_MD_endOne gm8 gm828) rfl rfl rfl ⟨rfl, hdy_MD_endOne⟩ ⟨Nat.le_of_ble_eq_true rfl, Nat.le_of_ble_eq_true rfl⟩) C_MD.1 km_40 hK hZ hP hS hA rfl hl.1 rfl (Nat.le_of_ble_eq_true rfl) d_MD_drain_36 ⟨Nat.le_of_ble_eq_true rfl, Nat.le_of_ble_eq_true rfl⟩ (fun r h_41 H locs hq9 hP hS => ?_)
                obtain ⟨rfl, sc_42, ar_43, m_44, R_45, c_47, a_48, b_49, K_46⟩ := hq9
                have K_50 : KM h h_41 md ad := (K_39).trans K_46
                refine W.eq (g2 := F0 m 39 ls []) rfl ?_
                refine lv_goto (tgt := 10) hx hb d_MD_drain_39 (by decide) ?_
                obtain ⟨u9, hu9, -, -, -⟩ := hIb.ulu hr8
                obtain ⟨hIe, hse, hce⟩ := hIb.end hr8 hu9
                exact ih (nextM T) _ sc_42 ar_43 h_41 H locs ls (by show cnt (endM (bgM T)) ≤ f; omega) hl hP hS m_44 R_45 hIe hdr2 (c_47.trans C0) K_50
  exact loop 41 S t _ _ _ _ _ ls (cnt_41 hI) hl hP hS m_6 hR1 hI rfl c0 K_7

