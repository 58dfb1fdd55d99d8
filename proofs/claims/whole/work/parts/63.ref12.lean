/-! THE REFERENCE: it asks the disk; it makes room. -/
theorem laN_s {q : List mQ} {b : Int32} {k : Nat} {r : mQ} (h : q[k]? = some r) : laN q b (k + 1) = if r.2.1 = 2 then none else if r.2.2.1 = b then some k else laN q b k := by
  simp only [laN]; rw [h]
theorem roomM_1 {S : mS} (h : S.bs.length < 10) : roomM S = S := if_pos h
theorem roomM_2 {S : mS} {c : mC} {t : List mC} (h : ¬ S.bs.length < 10) (hb : S.bs = c :: t) : roomM S = if c.2.2 = 0 then evM S t else wbM (evM S t) c := by
  unfold roomM; rw [if_neg h, hb]
set_option maxHeartbeats 800000 in
set_option maxRecDepth 100000 in
theorem c_MD_ask (l : Launch) (E : fh_E) (h : fh_H) (md : Nat) (ad : Nat → Nat) (sc : Nat → Int32) (ar : Nat → Nat → Int32) (hM : MDs E h md ad sc ar) (S : mS) (t : Nat) (hR : RM sc ar S) (hI : Inv S t) (N : Nat) (hN : NB S N) (hN2 : N < 2 ^ 31) (hq : S.q.length < 40) (w b v : Int32) (hv : w ≠ 1 → v = 0) : fh_Met l y_MD_ask w_MD_ask ({ frames := 0, cells := 0, slots := 0, locals := 0 }) E [.ref md, .int w, .int b, .int v] h (fun r h1 => r = none ∧ ∃ sc1 ar1, MDs E h1 md ad sc1 ar1 ∧ RM sc1 ar1 (askM S w b v) ∧ sc1 0 = sc 0 ∧ KM h h1 md ad) 0 0 := by
  refine fh_ofW (cc := b_MD_ask) (maxL := 6) (ret := none) (by decide) rfl (Nat.le_of_ble_eq_true rfl) ?_
  intro p e s m below meth c A ls hx hb hr hml hown hts hlocks hname hnoh hadm hA hK hZ hP hS hl
  have hG : ∀ w ∈ G, w.before _ s = true := fun w hw => hts w (List.mem_cons_of_mem _ hw)
  have hown : s.vm.findClass R_MD = some m.cls := hown
  have hl : lv_has ls 6 [(0, .ref md), (1, .int w), (2, .int b), (3, .int v)] := hl
  have hR0 := hR
  obtain ⟨⟨a1, a2, a3, a4, a5, a6, a7, a8⟩, a9, ⟨a10, a11, a12⟩, a14, ⟨a15, a16⟩, ⟨a21, a22⟩, ⟨a24, a25⟩, a26, a27, a28⟩ := hR
  have km_1 : h md = some (.inr (7, [.int (sc 0), .int (sc 1), .int (sc 2), .int (sc 3), .int (sc 4), .int (sc 5), .int (sc 6), .int (sc 7), .int (sc 8), .ref (ad 9), .int (sc 10), .ref (ad 11), .ref (ad 12), .ref (ad 13), .int (sc 14), .int (sc 15), .ref (ad 16), .ref (ad 17), .ref (ad 18), .ref (ad 19), .ref (ad 20), .int (sc 21), .ref (ad 22), .ref (ad 23), .int (sc 24), .int (sc 25), .int (sc 26), .int (sc 27), .int (sc 28)])) := hM.1
  have ka_2 : h (ad 16) = some (.inl (fh_cI E, 41, .inl (ar 16))) := hM.2.1 16 rfl
  have ka_3 : h (ad 17) = some (.inl (fh_cI E, 41, .inl (ar 17))) := hM.2.1 17 rfl
  have ka_4 : h (ad 18) = some (.inl (fh_cI E, 41, .inl (ar 18))) := hM.2.1 18 rfl
  have ka_5 : h (ad 19) = some (.inl (fh_cI E, 41, .inl (ar 19))) := hM.2.1 19 rfl
  have ka_6 : h (ad 20) = some (.inl (fh_cI E, 41, .inl (ar 20))) := hM.2.1 20 rfl
  refine lv_iconst (v := (-1)) hx hb d_MD_ask_0 (by decide) ?_
  refine lv_istore (lv' := [(4, .int (-1)), (0, .ref md), (1, .int w), (2, .int b), (3, .int v)]) hx hb d_MD_ask_1 hl (by decide) rfl (fun ls hl => ?_)
  refine lv_iconst (v := 0) hx hb d_MD_ask_3 (by decide) ?_
  refine lv_istore (lv' := [(5, .int 0), (4, .int (-1)), (0, .ref md), (1, .int w), (2, .int b), (3, .int v)]) hx hb d_MD_ask_4 hl (by decide) rfl (fun ls hl => ?_)
  have loop : ∀ (f k : Nat) (ls : Array Slot), k + f = S.q.length → lv_has ls 6 [(5, .int (nI k)), (4, .int (pl (laN S.q b k))), (0, .ref md), (1, .int w), (2, .int b), (3, .int v)] → W p l e ({ frames := 0, cells := 0, slots := 0, locals := 0 }) s m ([.ref md, .int w, .int b, .int v] : List Value).toArray below meth c s.heap [] 0 0 (MQ below (fh_Post E (fun r h1 => r = none ∧ ∃ sc1 ar1, MDs E h1 md ad sc1 ar1 ∧ RM sc1 ar1 (askM S w b v) ∧ sc1 0 = sc 0 ∧ KM h h1 md ad) A) ([.ref md, .int w, .int b, .int v] : List Value).toArray s 0 0 A) (F0 m 6 ls []) := by
    intro f
    induction f with
    | zero =>
      intro k ls hkf hl
      refine lv_iload hx hb d_MD_ask_6 (lv_at hl 0 rfl) ?_
      refine lv_aload_n hx hb d_MD_ask_8 rfl (lv_at hl 2 rfl) ?_
      refine fh_get hx hb hG C_MD iG_MD hown hK hP km_1 15 (by decide) gm688 rfl d_MD_ask_9 ?_
      refine lv_icmp_ge (tgt := 56) hx hb d_MD_ask_12 (by decide) (fun c_7 => ?_) (fun c_7 => ?_)
      · skip
        have hk : k = S.q.length := by omega
        subst hk
        refine lv_iload_n hx hb d_MD_ask_56 rfl (lv_at hl 3 rfl) ?_
        refine lv_iconst (v := 1) hx hb d_MD_ask_57 (by decide) ?_
        refine lv_icmp_ne (tgt := 96) hx hb d_MD_ask_58 (by decide) (fun c_8 => ?_) (fun c_8 => ?_)
        · skip
          refine lv_aload_n hx hb d_MD_ask_96 rfl (lv_at hl 2 rfl) ?_
          refine fh_get hx hb hG C_MD iG_MD hown hK hP km_1 16 (by decide) gm689 rfl d_MD_ask_97 ?_
          refine lv_aload_n hx hb d_MD_ask_100 rfl (lv_at hl 2 rfl) ?_
          refine fh_get hx hb hG C_MD iG_MD hown hK hP km_1 15 (by decide) gm688 rfl d_MD_ask_101 ?_
          rw [a15]
          refine lv_aload_n hx hb d_MD_ask_104 rfl (lv_at hl 2 rfl) ?_
          refine fh_get hx hb hG C_MD iG_MD hown hK hP km_1 14 (by decide) gm687 rfl d_MD_ask_105 ?_
          refine fh_iasK hx hb hK hP hS 0 ka_2 rfl (k := S.q.length) (by omega) (by decide) d_MD_ask_108 (fun H locs hP hS => ?_)
          obtain ⟨h_9, eh_10⟩ : ∃ z : fh_H, z = va_up h (ad 16) (some (.inl (fh_cI E, 41, .inl (upd (ar 16) S.q.length ((sc 14)))))) := ⟨_, rfl⟩
          have hP : fh_P E.1 vwCl A h_9 H := by rw [eh_10]; exact hP
          obtain ⟨ar_11, ea_12⟩ : ∃ z : Nat → Nat → Int32, z = va_up ar 16 (upd (ar 16) S.q.length ((sc 14))) := ⟨_, rfl⟩
          have m_13 : MDs E h_9 md ad sc ar_11 := by rw [ea_12]; exact hM.setA 16 rfl eh_10
          have K_14 : KM h h_9 md ad := (KM.rfl).trans (KM.upA 16 rfl eh_10)
          have km_15 : h_9 md = some (.inr (7, [.int (sc 0), .int (sc 1), .int (sc 2), .int (sc 3), .int (sc 4), .int (sc 5), .int (sc 6), .int (sc 7), .int (sc 8), .ref (ad 9), .int (sc 10), .ref (ad 11), .ref (ad 12), .ref (ad 13), .int (sc 14), .int (sc 15), .ref (ad 16), .ref (ad 17), .ref (ad 18), .ref (ad 19), .ref (ad 20), .int (sc 21), .ref (ad 22), .ref (ad 23), .int (sc 24), .int (sc 25), .int (sc 26), .int (sc 27), .int (sc 28)])) := m_13.1
          have ka_16 : h_9 (ad 16) = some (.inl (fh_cI E, 41, .inl (ar_11 16))) := m_13.2.1 16 rfl
          have ka_17 : h_9 (ad 17) = some (.inl (fh_cI E, 41, .inl (ar_11 17))) := m_13.2.1 17 rfl
          have ka_18 : h_9 (ad 18) = some (.inl (fh_cI E, 41, .inl (ar_11 18))) := m_13.2.1 18 rfl
          have ka_19 : h_9 (ad 19) = some (.inl (fh_cI E, 41, .inl (ar_11 19))) := m_13.2.1 19 rfl
          have ka_20 : h_9 (ad 20) = some (.inl (fh_cI E, 41, .inl (ar_11 20))) := m_13.2.1 20 rfl
          refine lv_aload_n hx hb d_MD_ask_109 rfl (lv_at hl 2 rfl) ?_
          refine fh_get hx hb hG C_MD iG_MD hown hK hP km_15 17 (by decide) gm690 rfl d_MD_ask_110 ?_
          refine lv_aload_n hx hb d_MD_ask_113 rfl (lv_at hl 2 rfl) ?_
          refine fh_get hx hb hG C_MD iG_MD hown hK hP km_15 15 (by decide) gm688 rfl d_MD_ask_114 ?_
          rw [a15]
          refine lv_iload_n hx hb d_MD_ask_117 rfl (lv_at hl 3 rfl) ?_
          refine fh_iasK hx hb hK hP hS 0 ka_17 rfl (k := S.q.length) (by omega) (by decide) d_MD_ask_118 (fun H locs hP hS => ?_)
          obtain ⟨h_21, eh_22⟩ : ∃ z : fh_H, z = va_up h_9 (ad 17) (some (.inl (fh_cI E, 41, .inl (upd (ar_11 17) S.q.length (w))))) := ⟨_, rfl⟩
          have hP : fh_P E.1 vwCl A h_21 H := by rw [eh_22]; exact hP
          obtain ⟨ar_23, ea_24⟩ : ∃ z : Nat → Nat → Int32, z = va_up ar_11 17 (upd (ar_11 17) S.q.length (w)) := ⟨_, rfl⟩
          have m_25 : MDs E h_21 md ad sc ar_23 := by rw [ea_24]; exact m_13.setA 17 rfl eh_22
          have K_26 : KM h h_21 md ad := (K_14).trans (KM.upA 17 rfl eh_22)
          have km_27 : h_21 md = some (.inr (7, [.int (sc 0), .int (sc 1), .int (sc 2), .int (sc 3), .int (sc 4), .int (sc 5), .int (sc 6), .int (sc 7), .int (sc 8), .ref (ad 9), .int (sc 10), .ref (ad 11), .ref (ad 12), .ref (ad 13), .int (sc 14), .int (sc 15), .ref (ad 16), .ref (ad 17), .ref (ad 18), .ref (ad 19), .ref (ad 20), .int (sc 21), .ref (ad 22), .ref (ad 23), .int (sc 24), .int (sc 25), .int (sc 26), .int (sc 27), .int (sc 28)])) := m_25.1
          have ka_28 : h_21 (ad 16) = some (.inl (fh_cI E, 41, .inl (ar_23 16))) := m_25.2.1 16 rfl
          have ka_29 : h_21 (ad 17) = some (.inl (fh_cI E, 41, .inl (ar_23 17))) := m_25.2.1 17 rfl
          have ka_30 : h_21 (ad 18) = some (.inl (fh_cI E, 41, .inl (ar_23 18))) := m_25.2.1 18 rfl
          have ka_31 : h_21 (ad 19) = some (.inl (fh_cI E, 41, .inl (ar_23 19))) := m_25.2.1 19 rfl
          have ka_32 : h_21 (ad 20) = some (.inl (fh_cI E, 41, .inl (ar_23 20))) := m_25.2.1 20 rfl
          refine lv_aload_n hx hb d_MD_ask_119 rfl (lv_at hl 2 rfl) ?_
          refine fh_get hx hb hG C_MD iG_MD hown hK hP km_27 18 (by decide) gm691 rfl d_MD_ask_120 ?_
          refine lv_aload_n hx hb d_MD_ask_123 rfl (lv_at hl 2 rfl) ?_
          refine fh_get hx hb hG C_MD iG_MD hown hK hP km_27 15 (by decide) gm688 rfl d_MD_ask_124 ?_
          rw [a15]
          refine lv_iload_n hx hb d_MD_ask_127 rfl (lv_at hl 4 rfl) ?_
          refine fh_iasK hx hb hK hP hS 0 ka_30 rfl (k := S.q.length) (by omega) (by decide) d_MD_ask_128 (fun H locs hP hS => ?_)
          obtain ⟨h_33, eh_34⟩ : ∃ z : fh_H, z = va_up h_21 (ad 18) (some (.inl (fh_cI E, 41, .inl (upd (ar_23 18) S.q.length (b))))) := ⟨_, rfl⟩
          have hP : fh_P E.1 vwCl A h_33 H := by rw [eh_34]; exact hP
          obtain ⟨ar_35, ea_36⟩ : ∃ z : Nat → Nat → Int32, z = va_up ar_23 18 (upd (ar_23 18) S.q.length (b)) := ⟨_, rfl⟩
          have m_37 : MDs E h_33 md ad sc ar_35 := by rw [ea_36]; exact m_25.setA 18 rfl eh_34
          have K_38 : KM h h_33 md ad := (K_26).trans (KM.upA 18 rfl eh_34)
          have km_39 : h_33 md = some (.inr (7, [.int (sc 0), .int (sc 1), .int (sc 2), .int (sc 3), .int (sc 4), .int (sc 5), .int (sc 6), .int (sc 7), .int (sc 8), .ref (ad 9), .int (sc 10), .ref (ad 11), .ref (ad 12), .ref (ad 13), .int (sc 14), .int (sc 15), .ref (ad 16), .ref (ad 17), .ref (ad 18), .ref (ad 19), .ref (ad 20), .int (sc 21), .ref (ad 22), .ref (ad 23), .int (sc 24), .int (sc 25), .int (sc 26), .int (sc 27), .int (sc 28)])) := m_37.1
          have ka_40 : h_33 (ad 16) = some (.inl (fh_cI E, 41, .inl (ar_35 16))) := m_37.2.1 16 rfl
          have ka_41 : h_33 (ad 17) = some (.inl (fh_cI E, 41, .inl (ar_35 17))) := m_37.2.1 17 rfl
          have ka_42 : h_33 (ad 18) = some (.inl (fh_cI E, 41, .inl (ar_35 18))) := m_37.2.1 18 rfl
          have ka_43 : h_33 (ad 19) = some (.inl (fh_cI E, 41, .inl (ar_35 19))) := m_37.2.1 19 rfl
          have ka_44 : h_33 (ad 20) = some (.inl (fh_cI E, 41, .inl (ar_35 20))) := m_37.2.1 20 rfl
          refine lv_aload_n hx hb d_MD_ask_129 rfl (lv_at hl 2 rfl) ?_
          refine fh_get hx hb hG C_MD iG_MD hown hK hP km_39 19 (by decide) gm692 rfl d_MD_ask_130 ?_
          refine lv_aload_n hx hb d_MD_ask_133 rfl (lv_at hl 2 rfl) ?_
          refine fh_get hx hb hG C_MD iG_MD hown hK hP km_39 15 (by decide) gm688 rfl d_MD_ask_134 ?_
          rw [a15]
          refine lv_iload_n hx hb d_MD_ask_137 rfl (lv_at hl 5 rfl) ?_
          refine fh_iasK hx hb hK hP hS 0 ka_43 rfl (k := S.q.length) (by omega) (by decide) d_MD_ask_138 (fun H locs hP hS => ?_)
          obtain ⟨h_45, eh_46⟩ : ∃ z : fh_H, z = va_up h_33 (ad 19) (some (.inl (fh_cI E, 41, .inl (upd (ar_35 19) S.q.length (v))))) := ⟨_, rfl⟩
          have hP : fh_P E.1 vwCl A h_45 H := by rw [eh_46]; exact hP
          obtain ⟨ar_47, ea_48⟩ : ∃ z : Nat → Nat → Int32, z = va_up ar_35 19 (upd (ar_35 19) S.q.length (v)) := ⟨_, rfl⟩
          have m_49 : MDs E h_45 md ad sc ar_47 := by rw [ea_48]; exact m_37.setA 19 rfl eh_46
          have K_50 : KM h h_45 md ad := (K_38).trans (KM.upA 19 rfl eh_46)
          have km_51 : h_45 md = some (.inr (7, [.int (sc 0), .int (sc 1), .int (sc 2), .int (sc 3), .int (sc 4), .int (sc 5), .int (sc 6), .int (sc 7), .int (sc 8), .ref (ad 9), .int (sc 10), .ref (ad 11), .ref (ad 12), .ref (ad 13), .int (sc 14), .int (sc 15), .ref (ad 16), .ref (ad 17), .ref (ad 18), .ref (ad 19), .ref (ad 20), .int (sc 21), .ref (ad 22), .ref (ad 23), .int (sc 24), .int (sc 25), .int (sc 26), .int (sc 27), .int (sc 28)])) := m_49.1
          have ka_52 : h_45 (ad 16) = some (.inl (fh_cI E, 41, .inl (ar_47 16))) := m_49.2.1 16 rfl
          have ka_53 : h_45 (ad 17) = some (.inl (fh_cI E, 41, .inl (ar_47 17))) := m_49.2.1 17 rfl
          have ka_54 : h_45 (ad 18) = some (.inl (fh_cI E, 41, .inl (ar_47 18))) := m_49.2.1 18 rfl
          have ka_55 : h_45 (ad 19) = some (.inl (fh_cI E, 41, .inl (ar_47 19))) := m_49.2.1 19 rfl
          have ka_56 : h_45 (ad 20) = some (.inl (fh_cI E, 41, .inl (ar_47 20))) := m_49.2.1 20 rfl
          refine lv_aload_n hx hb d_MD_ask_139 rfl (lv_at hl 2 rfl) ?_
          refine fh_get hx hb hG C_MD iG_MD hown hK hP km_51 20 (by decide) gm693 rfl d_MD_ask_140 ?_
          refine lv_aload_n hx hb d_MD_ask_143 rfl (lv_at hl 2 rfl) ?_
          refine fh_get hx hb hG C_MD iG_MD hown hK hP km_51 15 (by decide) gm688 rfl d_MD_ask_144 ?_
          rw [a15]
          refine lv_aload_n hx hb d_MD_ask_147 rfl (lv_at hl 2 rfl) ?_
          refine fh_get hx hb hG C_MD iG_MD hown hK hP km_51 1 (by decide) gm674 rfl d_MD_ask_148 ?_
          refine fh_iasK hx hb hK hP hS 0 ka_56 rfl (k := S.q.length) (by omega) (by decide) d_MD_ask_151 (fun H locs hP hS => ?_)
          obtain ⟨h_57, eh_58⟩ : ∃ z : fh_H, z = va_up h_45 (ad 20) (some (.inl (fh_cI E, 41, .inl (upd (ar_47 20) S.q.length ((sc 1)))))) := ⟨_, rfl⟩
          have hP : fh_P E.1 vwCl A h_57 H := by rw [eh_58]; exact hP
          obtain ⟨ar_59, ea_60⟩ : ∃ z : Nat → Nat → Int32, z = va_up ar_47 20 (upd (ar_47 20) S.q.length ((sc 1))) := ⟨_, rfl⟩
          have m_61 : MDs E h_57 md ad sc ar_59 := by rw [ea_60]; exact m_49.setA 20 rfl eh_58
          have K_62 : KM h h_57 md ad := (K_50).trans (KM.upA 20 rfl eh_58)
          have km_63 : h_57 md = some (.inr (7, [.int (sc 0), .int (sc 1), .int (sc 2), .int (sc 3), .int (sc 4), .int (sc 5), .int (sc 6), .int (sc 7), .int (sc 8), .ref (ad 9), .int (sc 10), .ref (ad 11), .ref (ad 12), .ref (ad 13), .int (sc 14), .int (sc 15), .ref (ad 16), .ref (ad 17), .ref (ad 18), .ref (ad 19), .ref (ad 20), .int (sc 21), .ref (ad 22), .ref (ad 23), .int (sc 24), .int (sc 25), .int (sc 26), .int (sc 27), .int (sc 28)])) := m_61.1
          have ka_64 : h_57 (ad 16) = some (.inl (fh_cI E, 41, .inl (ar_59 16))) := m_61.2.1 16 rfl
          have ka_65 : h_57 (ad 17) = some (.inl (fh_cI E, 41, .inl (ar_59 17))) := m_61.2.1 17 rfl
          have ka_66 : h_57 (ad 18) = some (.inl (fh_cI E, 41, .inl (ar_59 18))) := m_61.2.1 18 rfl
          have ka_67 : h_57 (ad 19) = some (.inl (fh_cI E, 41, .inl (ar_59 19))) := m_61.2.1 19 rfl
          have ka_68 : h_57 (ad 20) = some (.inl (fh_cI E, 41, .inl (ar_59 20))) := m_61.2.1 20 rfl
          refine lv_aload_n hx hb d_MD_ask_152 rfl (lv_at hl 2 rfl) ?_
          refine lv_dup hx hb d_MD_ask_153 rfl ?_
          refine fh_get hx hb hG C_MD iG_MD hown hK hP km_63 14 (by decide) gm687 rfl d_MD_ask_154 ?_
          refine lv_iconst (v := 1) hx hb d_MD_ask_157 (by decide) ?_
          refine lv_iadd hx hb d_MD_ask_158 ?_
          refine fh_put hx hb hG C_MD iG_MD hown hK hP hS km_63 14 (by decide) gm687 rfl (v := .int (((sc 14)) + 1)) rfl rfl (Nat.le_of_ble_eq_true rfl) d_MD_ask_159 (fun H locs hP hS => ?_)
          obtain ⟨h_69, eh_70⟩ : ∃ z : fh_H, z = va_up h_57 md (some (.inr (7, [.int (sc 0), .int (sc 1), .int (sc 2), .int (sc 3), .int (sc 4), .int (sc 5), .int (sc 6), .int (sc 7), .int (sc 8), .ref (ad 9), .int (sc 10), .ref (ad 11), .ref (ad 12), .ref (ad 13), .int (((sc 14)) + 1), .int (sc 15), .ref (ad 16), .ref (ad 17), .ref (ad 18), .ref (ad 19), .ref (ad 20), .int (sc 21), .ref (ad 22), .ref (ad 23), .int (sc 24), .int (sc 25), .int (sc 26), .int (sc 27), .int (sc 28)]))) := ⟨_, rfl⟩
          have hP : fh_P E.1 vwCl A h_69 H := by rw [eh_70]; exact hP
          obtain ⟨sc_71, es_72⟩ : ∃ z : Nat → Int32, z = upd sc 14 ((((sc 14)) + 1)) := ⟨_, rfl⟩
          have m_73 : MDs E h_69 md ad sc_71 ar_59 := by rw [es_72]; exact m_61.setS (by rw [eh_70]; rfl)
          have K_74 : KM h h_69 md ad := (K_62).trans (KM.upS eh_70)
          have km_75 : h_69 md = some (.inr (7, [.int (sc_71 0), .int (sc_71 1), .int (sc_71 2), .int (sc_71 3), .int (sc_71 4), .int (sc_71 5), .int (sc_71 6), .int (sc_71 7), .int (sc_71 8), .ref (ad 9), .int (sc_71 10), .ref (ad 11), .ref (ad 12), .ref (ad 13), .int (sc_71 14), .int (sc_71 15), .ref (ad 16), .ref (ad 17), .ref (ad 18), .ref (ad 19), .ref (ad 20), .int (sc_71 21), .ref (ad 22), .ref (ad 23), .int (sc_71 24), .int (sc_71 25), .int (sc_71 26), .int (sc_71 27), .int (sc_71 28)])) := m_73.1
          have ka_76 : h_69 (ad 16) = some (.inl (fh_cI E, 41, .inl (ar_59 16))) := m_73.2.1 16 rfl
          have ka_77 : h_69 (ad 17) = some (.inl (fh_cI E, 41, .inl (ar_59 17))) := m_73.2.1 17 rfl
          have ka_78 : h_69 (ad 18) = some (.inl (fh_cI E, 41, .inl (ar_59 18))) := m_73.2.1 18 rfl
          have ka_79 : h_69 (ad 19) = some (.inl (fh_cI E, 41, .inl (ar_59 19))) := m_73.2.1 19 rfl
          have ka_80 : h_69 (ad 20) = some (.inl (fh_cI E, 41, .inl (ar_59 20))) := m_73.2.1 20 rfl
          refine lv_aload_n hx hb d_MD_ask_162 rfl (lv_at hl 2 rfl) ?_
          refine lv_dup hx hb d_MD_ask_163 rfl ?_
          refine fh_get hx hb hG C_MD iG_MD hown hK hP km_75 15 (by decide) gm688 rfl d_MD_ask_164 ?_
          refine lv_iconst (v := 1) hx hb d_MD_ask_167 (by decide) ?_
          refine lv_iadd hx hb d_MD_ask_168 ?_
          refine fh_put hx hb hG C_MD iG_MD hown hK hP hS km_75 15 (by decide) gm688 rfl (v := .int (((sc_71 15)) + 1)) rfl rfl (Nat.le_of_ble_eq_true rfl) d_MD_ask_169 (fun H locs hP hS => ?_)
          obtain ⟨h_81, eh_82⟩ : ∃ z : fh_H, z = va_up h_69 md (some (.inr (7, [.int (sc_71 0), .int (sc_71 1), .int (sc_71 2), .int (sc_71 3), .int (sc_71 4), .int (sc_71 5), .int (sc_71 6), .int (sc_71 7), .int (sc_71 8), .ref (ad 9), .int (sc_71 10), .ref (ad 11), .ref (ad 12), .ref (ad 13), .int (sc_71 14), .int (((sc_71 15)) + 1), .ref (ad 16), .ref (ad 17), .ref (ad 18), .ref (ad 19), .ref (ad 20), .int (sc_71 21), .ref (ad 22), .ref (ad 23), .int (sc_71 24), .int (sc_71 25), .int (sc_71 26), .int (sc_71 27), .int (sc_71 28)]))) := ⟨_, rfl⟩
          have hP : fh_P E.1 vwCl A h_81 H := by rw [eh_82]; exact hP
          obtain ⟨sc_83, es_84⟩ : ∃ z : Nat → Int32, z = upd sc_71 15 ((((sc_71 15)) + 1)) := ⟨_, rfl⟩
          have m_85 : MDs E h_81 md ad sc_83 ar_59 := by rw [es_84]; exact m_73.setS (by rw [eh_82]; rfl)
          have K_86 : KM h h_81 md ad := (K_74).trans (KM.upS eh_82)
          have km_87 : h_81 md = some (.inr (7, [.int (sc_83 0), .int (sc_83 1), .int (sc_83 2), .int (sc_83 3), .int (sc_83 4), .int (sc_83 5), .int (sc_83 6), .int (sc_83 7), .int (sc_83 8), .ref (ad 9), .int (sc_83 10), .ref (ad 11), .ref (ad 12), .ref (ad 13), .int (sc_83 14), .int (sc_83 15), .ref (ad 16), .ref (ad 17), .ref (ad 18), .ref (ad 19), .ref (ad 20), .int (sc_83 21), .ref (ad 22), .ref (ad 23), .int (sc_83 24), .int (sc_83 25), .int (sc_83 26), .int (sc_83 27), .int (sc_83 28)])) := m_85.1
          have ka_88 : h_81 (ad 16) = some (.inl (fh_cI E, 41, .inl (ar_59 16))) := m_85.2.1 16 rfl
          have ka_89 : h_81 (ad 17) = some (.inl (fh_cI E, 41, .inl (ar_59 17))) := m_85.2.1 17 rfl
          have ka_90 : h_81 (ad 18) = some (.inl (fh_cI E, 41, .inl (ar_59 18))) := m_85.2.1 18 rfl
          have ka_91 : h_81 (ad 19) = some (.inl (fh_cI E, 41, .inl (ar_59 19))) := m_85.2.1 19 rfl
          have ka_92 : h_81 (ad 20) = some (.inl (fh_cI E, 41, .inl (ar_59 20))) := m_85.2.1 20 rfl
          have eA : ar_59 = lyA ar S.q.length (S.nn, w, b, S.tm, v) := by rw [ea_60, ea_48, ea_36, ea_24, ea_12, ← a14, ← a1]; rfl
          have eS : sc_83 = upd (upd sc 14 (sc 14 + 1)) 15 (sc 15 + 1) := by rw [es_84, es_72]; rfl
          have hX : askM S w b v = addM S w b v := if_neg c_8
          exact fh_vret hx hb hr hlocks (Nat.le_of_ble_eq_true rfl) (Nat.le_of_ble_eq_true rfl) hP hS ⟨rfl, sc_83, ar_59, m_85, by rw [eA, eS, hX]; exact hR0.add hN hN2 hv hq, by rw [eS]; rfl, K_86⟩ d_MD_ask_172
        · skip
          cases hla : laN S.q b S.q.length with
          | none =>
            rw [hla] at hl
            have hl : lv_has ls 6 [(5, .int (nI S.q.length)), (4, .int (-1)), (0, .ref md), (1, .int w), (2, .int b), (3, .int v)] := hl
            refine lv_iload hx hb d_MD_ask_61 (lv_at hl 1 rfl) ?_
            refine lv_if_lt (tgt := 96) hx hb d_MD_ask_63 (by decide) (fun c_93 => ?_) (fun c_93 => ?_)
            · skip
              refine lv_aload_n hx hb d_MD_ask_96 rfl (lv_at hl 2 rfl) ?_
              refine fh_get hx hb hG C_MD iG_MD hown hK hP km_1 16 (by decide) gm689 rfl d_MD_ask_97 ?_
              refine lv_aload_n hx hb d_MD_ask_100 rfl (lv_at hl 2 rfl) ?_
              refine fh_get hx hb hG C_MD iG_MD hown hK hP km_1 15 (by decide) gm688 rfl d_MD_ask_101 ?_
              rw [a15]
              refine lv_aload_n hx hb d_MD_ask_104 rfl (lv_at hl 2 rfl) ?_
              refine fh_get hx hb hG C_MD iG_MD hown hK hP km_1 14 (by decide) gm687 rfl d_MD_ask_105 ?_
              refine fh_iasK hx hb hK hP hS 0 ka_2 rfl (k := S.q.length) (by omega) (by decide) d_MD_ask_108 (fun H locs hP hS => ?_)
              obtain ⟨h_94, eh_95⟩ : ∃ z : fh_H, z = va_up h (ad 16) (some (.inl (fh_cI E, 41, .inl (upd (ar 16) S.q.length ((sc 14)))))) := ⟨_, rfl⟩
              have hP : fh_P E.1 vwCl A h_94 H := by rw [eh_95]; exact hP
              obtain ⟨ar_96, ea_97⟩ : ∃ z : Nat → Nat → Int32, z = va_up ar 16 (upd (ar 16) S.q.length ((sc 14))) := ⟨_, rfl⟩
              have m_98 : MDs E h_94 md ad sc ar_96 := by rw [ea_97]; exact hM.setA 16 rfl eh_95
              have K_99 : KM h h_94 md ad := (KM.rfl).trans (KM.upA 16 rfl eh_95)
              have km_100 : h_94 md = some (.inr (7, [.int (sc 0), .int (sc 1), .int (sc 2), .int (sc 3), .int (sc 4), .int (sc 5), .int (sc 6), .int (sc 7), .int (sc 8), .ref (ad 9), .int (sc 10), .ref (ad 11), .ref (ad 12), .ref (ad 13), .int (sc 14), .int (sc 15), .ref (ad 16), .ref (ad 17), .ref (ad 18), .ref (ad 19), .ref (ad 20), .int (sc 21), .ref (ad 22), .ref (ad 23), .int (sc 24), .int (sc 25), .int (sc 26), .int (sc 27), .int (sc 28)])) := m_98.1
              have ka_101 : h_94 (ad 16) = some (.inl (fh_cI E, 41, .inl (ar_96 16))) := m_98.2.1 16 rfl
              have ka_102 : h_94 (ad 17) = some (.inl (fh_cI E, 41, .inl (ar_96 17))) := m_98.2.1 17 rfl
              have ka_103 : h_94 (ad 18) = some (.inl (fh_cI E, 41, .inl (ar_96 18))) := m_98.2.1 18 rfl
              have ka_104 : h_94 (ad 19) = some (.inl (fh_cI E, 41, .inl (ar_96 19))) := m_98.2.1 19 rfl
              have ka_105 : h_94 (ad 20) = some (.inl (fh_cI E, 41, .inl (ar_96 20))) := m_98.2.1 20 rfl
              refine lv_aload_n hx hb d_MD_ask_109 rfl (lv_at hl 2 rfl) ?_
              refine fh_get hx hb hG C_MD iG_MD hown hK hP km_100 17 (by decide) gm690 rfl d_MD_ask_110 ?_
              refine lv_aload_n hx hb d_MD_ask_113 rfl (lv_at hl 2 rfl) ?_
              refine fh_get hx hb hG C_MD iG_MD hown hK hP km_100 15 (by decide) gm688 rfl d_MD_ask_114 ?_
              rw [a15]
              refine lv_iload_n hx hb d_MD_ask_117 rfl (lv_at hl 3 rfl) ?_
              refine fh_iasK hx hb hK hP hS 0 ka_102 rfl (k := S.q.length) (by omega) (by decide) d_MD_ask_118 (fun H locs hP hS => ?_)
              obtain ⟨h_106, eh_107⟩ : ∃ z : fh_H, z = va_up h_94 (ad 17) (some (.inl (fh_cI E, 41, .inl (upd (ar_96 17) S.q.length (w))))) := ⟨_, rfl⟩
              have hP : fh_P E.1 vwCl A h_106 H := by rw [eh_107]; exact hP
              obtain ⟨ar_108, ea_109⟩ : ∃ z : Nat → Nat → Int32, z = va_up ar_96 17 (upd (ar_96 17) S.q.length (w)) := ⟨_, rfl⟩
              have m_110 : MDs E h_106 md ad sc ar_108 := by rw [ea_109]; exact m_98.setA 17 rfl eh_107
              have K_111 : KM h h_106 md ad := (K_99).trans (KM.upA 17 rfl eh_107)
              have km_112 : h_106 md = some (.inr (7, [.int (sc 0), .int (sc 1), .int (sc 2), .int (sc 3), .int (sc 4), .int (sc 5), .int (sc 6), .int (sc 7), .int (sc 8), .ref (ad 9), .int (sc 10), .ref (ad 11), .ref (ad 12), .ref (ad 13), .int (sc 14), .int (sc 15), .ref (ad 16), .ref (ad 17), .ref (ad 18), .ref (ad 19), .ref (ad 20), .int (sc 21), .ref (ad 22), .ref (ad 23), .int (sc 24), .int (sc 25), .int (sc 26), .int (sc 27), .int (sc 28)])) := m_110.1
              have ka_113 : h_106 (ad 16) = some (.inl (fh_cI E, 41, .inl (ar_108 16))) := m_110.2.1 16 rfl
              have ka_114 : h_106 (ad 17) = some (.inl (fh_cI E, 41, .inl (ar_108 17))) := m_110.2.1 17 rfl
              have ka_115 : h_106 (ad 18) = some (.inl (fh_cI E, 41, .inl (ar_108 18))) := m_110.2.1 18 rfl
              have ka_116 : h_106 (ad 19) = some (.inl (fh_cI E, 41, .inl (ar_108 19))) := m_110.2.1 19 rfl
              have ka_117 : h_106 (ad 20) = some (.inl (fh_cI E, 41, .inl (ar_108 20))) := m_110.2.1 20 rfl
              refine lv_aload_n hx hb d_MD_ask_119 rfl (lv_at hl 2 rfl) ?_
              refine fh_get hx hb hG C_MD iG_MD hown hK hP km_112 18 (by decide) gm691 rfl d_MD_ask_120 ?_
              refine lv_aload_n hx hb d_MD_ask_123 rfl (lv_at hl 2 rfl) ?_
              refine fh_get hx hb hG C_MD iG_MD hown hK hP km_112 15 (by decide) gm688 rfl d_MD_ask_124 ?_
              rw [a15]
              refine lv_iload_n hx hb d_MD_ask_127 rfl (lv_at hl 4 rfl) ?_
              refine fh_iasK hx hb hK hP hS 0 ka_115 rfl (k := S.q.length) (by omega) (by decide) d_MD_ask_128 (fun H locs hP hS => ?_)
              obtain ⟨h_118, eh_119⟩ : ∃ z : fh_H, z = va_up h_106 (ad 18) (some (.inl (fh_cI E, 41, .inl (upd (ar_108 18) S.q.length (b))))) := ⟨_, rfl⟩
              have hP : fh_P E.1 vwCl A h_118 H := by rw [eh_119]; exact hP
              obtain ⟨ar_120, ea_121⟩ : ∃ z : Nat → Nat → Int32, z = va_up ar_108 18 (upd (ar_108 18) S.q.length (b)) := ⟨_, rfl⟩
              have m_122 : MDs E h_118 md ad sc ar_120 := by rw [ea_121]; exact m_110.setA 18 rfl eh_119
              have K_123 : KM h h_118 md ad := (K_111).trans (KM.upA 18 rfl eh_119)
              have km_124 : h_118 md = some (.inr (7, [.int (sc 0), .int (sc 1), .int (sc 2), .int (sc 3), .int (sc 4), .int (sc 5), .int (sc 6), .int (sc 7), .int (sc 8), .ref (ad 9), .int (sc 10), .ref (ad 11), .ref (ad 12), .ref (ad 13), .int (sc 14), .int (sc 15), .ref (ad 16), .ref (ad 17), .ref (ad 18), .ref (ad 19), .ref (ad 20), .int (sc 21), .ref (ad 22), .ref (ad 23), .int (sc 24), .int (sc 25), .int (sc 26), .int (sc 27), .int (sc 28)])) := m_122.1
              have ka_125 : h_118 (ad 16) = some (.inl (fh_cI E, 41, .inl (ar_120 16))) := m_122.2.1 16 rfl
              have ka_126 : h_118 (ad 17) = some (.inl (fh_cI E, 41, .inl (ar_120 17))) := m_122.2.1 17 rfl
              have ka_127 : h_118 (ad 18) = some (.inl (fh_cI E, 41, .inl (ar_120 18))) := m_122.2.1 18 rfl
              have ka_128 : h_118 (ad 19) = some (.inl (fh_cI E, 41, .inl (ar_120 19))) := m_122.2.1 19 rfl
              have ka_129 : h_118 (ad 20) = some (.inl (fh_cI E, 41, .inl (ar_120 20))) := m_122.2.1 20 rfl
              refine lv_aload_n hx hb d_MD_ask_129 rfl (lv_at hl 2 rfl) ?_
              refine fh_get hx hb hG C_MD iG_MD hown hK hP km_124 19 (by decide) gm692 rfl d_MD_ask_130 ?_
              refine lv_aload_n hx hb d_MD_ask_133 rfl (lv_at hl 2 rfl) ?_
              refine fh_get hx hb hG C_MD iG_MD hown hK hP km_124 15 (by decide) gm688 rfl d_MD_ask_134 ?_
              rw [a15]
              refine lv_iload_n hx hb d_MD_ask_137 rfl (lv_at hl 5 rfl) ?_
              refine fh_iasK hx hb hK hP hS 0 ka_128 rfl (k := S.q.length) (by omega) (by decide) d_MD_ask_138 (fun H locs hP hS => ?_)
              obtain ⟨h_130, eh_131⟩ : ∃ z : fh_H, z = va_up h_118 (ad 19) (some (.inl (fh_cI E, 41, .inl (upd (ar_120 19) S.q.length (v))))) := ⟨_, rfl⟩
              have hP : fh_P E.1 vwCl A h_130 H := by rw [eh_131]; exact hP
              obtain ⟨ar_132, ea_133⟩ : ∃ z : Nat → Nat → Int32, z = va_up ar_120 19 (upd (ar_120 19) S.q.length (v)) := ⟨_, rfl⟩
              have m_134 : MDs E h_130 md ad sc ar_132 := by rw [ea_133]; exact m_122.setA 19 rfl eh_131
              have K_135 : KM h h_130 md ad := (K_123).trans (KM.upA 19 rfl eh_131)
              have km_136 : h_130 md = some (.inr (7, [.int (sc 0), .int (sc 1), .int (sc 2), .int (sc 3), .int (sc 4), .int (sc 5), .int (sc 6), .int (sc 7), .int (sc 8), .ref (ad 9), .int (sc 10), .ref (ad 11), .ref (ad 12), .ref (ad 13), .int (sc 14), .int (sc 15), .ref (ad 16), .ref (ad 17), .ref (ad 18), .ref (ad 19), .ref (ad 20), .int (sc 21), .ref (ad 22), .ref (ad 23), .int (sc 24), .int (sc 25), .int (sc 26), .int (sc 27), .int (sc 28)])) := m_134.1
              have ka_137 : h_130 (ad 16) = some (.inl (fh_cI E, 41, .inl (ar_132 16))) := m_134.2.1 16 rfl
              have ka_138 : h_130 (ad 17) = some (.inl (fh_cI E, 41, .inl (ar_132 17))) := m_134.2.1 17 rfl
              have ka_139 : h_130 (ad 18) = some (.inl (fh_cI E, 41, .inl (ar_132 18))) := m_134.2.1 18 rfl
              have ka_140 : h_130 (ad 19) = some (.inl (fh_cI E, 41, .inl (ar_132 19))) := m_134.2.1 19 rfl
              have ka_141 : h_130 (ad 20) = some (.inl (fh_cI E, 41, .inl (ar_132 20))) := m_134.2.1 20 rfl
              refine lv_aload_n hx hb d_MD_ask_139 rfl (lv_at hl 2 rfl) ?_
              refine fh_get hx hb hG C_MD iG_MD hown hK hP km_136 20 (by decide) gm693 rfl d_MD_ask_140 ?_
              refine lv_aload_n hx hb d_MD_ask_143 rfl (lv_at hl 2 rfl) ?_
              refine fh_get hx hb hG C_MD iG_MD hown hK hP km_136 15 (by decide) gm688 rfl d_MD_ask_144 ?_
              rw [a15]
              refine lv_aload_n hx hb d_MD_ask_147 rfl (lv_at hl 2 rfl) ?_
              refine fh_get hx hb hG C_MD iG_MD hown hK hP km_136 1 (by decide) gm674 rfl d_MD_ask_148 ?_
              refine fh_iasK hx hb hK hP hS 0 ka_141 rfl (k := S.q.length) (by omega) (by decide) d_MD_ask_151 (fun H locs hP hS => ?_)
              obtain ⟨h_142, eh_143⟩ : ∃ z : fh_H, z = va_up h_130 (ad 20) (some (.inl (fh_cI E, 41, .inl (upd (ar_132 20) S.q.length ((sc 1)))))) := ⟨_, rfl⟩
              have hP : fh_P E.1 vwCl A h_142 H := by rw [eh_143]; exact hP
              obtain ⟨ar_144, ea_145⟩ : ∃ z : Nat → Nat → Int32, z = va_up ar_132 20 (upd (ar_132 20) S.q.length ((sc 1))) := ⟨_, rfl⟩
              have m_146 : MDs E h_142 md ad sc ar_144 := by rw [ea_145]; exact m_134.setA 20 rfl eh_143
              have K_147 : KM h h_142 md ad := (K_135).trans (KM.upA 20 rfl eh_143)
              have km_148 : h_142 md = some (.inr (7, [.int (sc 0), .int (sc 1), .int (sc 2), .int (sc 3), .int (sc 4), .int (sc 5), .int (sc 6), .int (sc 7), .int (sc 8), .ref (ad 9), .int (sc 10), .ref (ad 11), .ref (ad 12), .ref (ad 13), .int (sc 14), .int (sc 15), .ref (ad 16), .ref (ad 17), .ref (ad 18), .ref (ad 19), .ref (ad 20), .int (sc 21), .ref (ad 22), .ref (ad 23), .int (sc 24), .int (sc 25), .int (sc 26), .int (sc 27), .int (sc 28)])) := m_146.1
              have ka_149 : h_142 (ad 16) = some (.inl (fh_cI E, 41, .inl (ar_144 16))) := m_146.2.1 16 rfl
              have ka_150 : h_142 (ad 17) = some (.inl (fh_cI E, 41, .inl (ar_144 17))) := m_146.2.1 17 rfl
              have ka_151 : h_142 (ad 18) = some (.inl (fh_cI E, 41, .inl (ar_144 18))) := m_146.2.1 18 rfl
              have ka_152 : h_142 (ad 19) = some (.inl (fh_cI E, 41, .inl (ar_144 19))) := m_146.2.1 19 rfl
              have ka_153 : h_142 (ad 20) = some (.inl (fh_cI E, 41, .inl (ar_144 20))) := m_146.2.1 20 rfl
              refine lv_aload_n hx hb d_MD_ask_152 rfl (lv_at hl 2 rfl) ?_
              refine lv_dup hx hb d_MD_ask_153 rfl ?_
              refine fh_get hx hb hG C_MD iG_MD hown hK hP km_148 14 (by decide) gm687 rfl d_MD_ask_154 ?_
              refine lv_iconst (v := 1) hx hb d_MD_ask_157 (by decide) ?_
              refine lv_iadd hx hb d_MD_ask_158 ?_
              refine fh_put hx hb hG C_MD iG_MD hown hK hP hS km_148 14 (by decide) gm687 rfl (v := .int (((sc 14)) + 1)) rfl rfl (Nat.le_of_ble_eq_true rfl) d_MD_ask_159 (fun H locs hP hS => ?_)
              obtain ⟨h_154, eh_155⟩ : ∃ z : fh_H, z = va_up h_142 md (some (.inr (7, [.int (sc 0), .int (sc 1), .int (sc 2), .int (sc 3), .int (sc 4), .int (sc 5), .int (sc 6), .int (sc 7), .int (sc 8), .ref (ad 9), .int (sc 10), .ref (ad 11), .ref (ad 12), .ref (ad 13), .int (((sc 14)) + 1), .int (sc 15), .ref (ad 16), .ref (ad 17), .ref (ad 18), .ref (ad 19), .ref (ad 20), .int (sc 21), .ref (ad 22), .ref (ad 23), .int (sc 24), .int (sc 25), .int (sc 26), .int (sc 27), .int (sc 28)]))) := ⟨_, rfl⟩
              have hP : fh_P E.1 vwCl A h_154 H := by rw [eh_155]; exact hP
              obtain ⟨sc_156, es_157⟩ : ∃ z : Nat → Int32, z = upd sc 14 ((((sc 14)) + 1)) := ⟨_, rfl⟩
              have m_158 : MDs E h_154 md ad sc_156 ar_144 := by rw [es_157]; exact m_146.setS (by rw [eh_155]; rfl)
              have K_159 : KM h h_154 md ad := (K_147).trans (KM.upS eh_155)
              have km_160 : h_154 md = some (.inr (7, [.int (sc_156 0), .int (sc_156 1), .int (sc_156 2), .int (sc_156 3), .int (sc_156 4), .int (sc_156 5), .int (sc_156 6), .int (sc_156 7), .int (sc_156 8), .ref (ad 9), .int (sc_156 10), .ref (ad 11), .ref (ad 12), .ref (ad 13), .int (sc_156 14), .int (sc_156 15), .ref (ad 16), .ref (ad 17), .ref (ad 18), .ref (ad 19), .ref (ad 20), .int (sc_156 21), .ref (ad 22), .ref (ad 23), .int (sc_156 24), .int (sc_156 25), .int (sc_156 26), .int (sc_156 27), .int (sc_156 28)])) := m_158.1
              have ka_161 : h_154 (ad 16) = some (.inl (fh_cI E, 41, .inl (ar_144 16))) := m_158.2.1 16 rfl
              have ka_162 : h_154 (ad 17) = some (.inl (fh_cI E, 41, .inl (ar_144 17))) := m_158.2.1 17 rfl
              have ka_163 : h_154 (ad 18) = some (.inl (fh_cI E, 41, .inl (ar_144 18))) := m_158.2.1 18 rfl
              have ka_164 : h_154 (ad 19) = some (.inl (fh_cI E, 41, .inl (ar_144 19))) := m_158.2.1 19 rfl
              have ka_165 : h_154 (ad 20) = some (.inl (fh_cI E, 41, .inl (ar_144 20))) := m_158.2.1 20 rfl
              refine lv_aload_n hx hb d_MD_ask_162 rfl (lv_at hl 2 rfl) ?_
              refine lv_dup hx hb d_MD_ask_163 rfl ?_
              refine fh_get hx hb hG C_MD iG_MD hown hK hP km_160 15 (by decide) gm688 rfl d_MD_ask_164 ?_
              refine lv_iconst (v := 1) hx hb d_MD_ask_167 (by decide) ?_
              refine lv_iadd hx hb d_MD_ask_168 ?_
              refine fh_put hx hb hG C_MD iG_MD hown hK hP hS km_160 15 (by decide) gm688 rfl (v := .int (((sc_156 15)) + 1)) rfl rfl (Nat.le_of_ble_eq_true rfl) d_MD_ask_169 (fun H locs hP hS => ?_)
              obtain ⟨h_166, eh_167⟩ : ∃ z : fh_H, z = va_up h_154 md (some (.inr (7, [.int (sc_156 0), .int (sc_156 1), .int (sc_156 2), .int (sc_156 3), .int (sc_156 4), .int (sc_156 5), .int (sc_156 6), .int (sc_156 7), .int (sc_156 8), .ref (ad 9), .int (sc_156 10), .ref (ad 11), .ref (ad 12), .ref (ad 13), .int (sc_156 14), .int (((sc_156 15)) + 1), .ref (ad 16), .ref (ad 17), .ref (ad 18), .ref (ad 19), .ref (ad 20), .int (sc_156 21), .ref (ad 22), .ref (ad 23), .int (sc_156 24), .int (sc_156 25), .int (sc_156 26), .int (sc_156 27), .int (sc_156 28)]))) := ⟨_, rfl⟩
              have hP : fh_P E.1 vwCl A h_166 H := by rw [eh_167]; exact hP
              obtain ⟨sc_168, es_169⟩ : ∃ z : Nat → Int32, z = upd sc_156 15 ((((sc_156 15)) + 1)) := ⟨_, rfl⟩
              have m_170 : MDs E h_166 md ad sc_168 ar_144 := by rw [es_169]; exact m_158.setS (by rw [eh_167]; rfl)
              have K_171 : KM h h_166 md ad := (K_159).trans (KM.upS eh_167)
              have km_172 : h_166 md = some (.inr (7, [.int (sc_168 0), .int (sc_168 1), .int (sc_168 2), .int (sc_168 3), .int (sc_168 4), .int (sc_168 5), .int (sc_168 6), .int (sc_168 7), .int (sc_168 8), .ref (ad 9), .int (sc_168 10), .ref (ad 11), .ref (ad 12), .ref (ad 13), .int (sc_168 14), .int (sc_168 15), .ref (ad 16), .ref (ad 17), .ref (ad 18), .ref (ad 19), .ref (ad 20), .int (sc_168 21), .ref (ad 22), .ref (ad 23), .int (sc_168 24), .int (sc_168 25), .int (sc_168 26), .int (sc_168 27), .int (sc_168 28)])) := m_170.1
              have ka_173 : h_166 (ad 16) = some (.inl (fh_cI E, 41, .inl (ar_144 16))) := m_170.2.1 16 rfl
              have ka_174 : h_166 (ad 17) = some (.inl (fh_cI E, 41, .inl (ar_144 17))) := m_170.2.1 17 rfl
              have ka_175 : h_166 (ad 18) = some (.inl (fh_cI E, 41, .inl (ar_144 18))) := m_170.2.1 18 rfl
              have ka_176 : h_166 (ad 19) = some (.inl (fh_cI E, 41, .inl (ar_144 19))) := m_170.2.1 19 rfl
              have ka_177 : h_166 (ad 20) = some (.inl (fh_cI E, 41, .inl (ar_144 20))) := m_170.2.1 20 rfl
              have eA : ar_144 = lyA ar S.q.length (S.nn, w, b, S.tm, v) := by rw [ea_145, ea_133, ea_121, ea_109, ea_97, ← a14, ← a1]; rfl
              have eS : sc_168 = upd (upd sc 14 (sc 14 + 1)) 15 (sc 15 + 1) := by rw [es_169, es_157]; rfl
              have hX : askM S w b v = addM S w b v := by rw [c_8]; exact (if_pos rfl).trans (wbM_2 (fun k hk => by rw [hla] at hk; cases hk) 0)
              exact fh_vret hx hb hr hlocks (Nat.le_of_ble_eq_true rfl) (Nat.le_of_ble_eq_true rfl) hP hS ⟨rfl, sc_168, ar_144, m_170, by rw [eA, eS, hX]; exact hR0.add hN hN2 hv hq, by rw [eS]; rfl, K_171⟩ d_MD_ask_172
            · skip
              exact absurd (show (-1 : Int32) < 0 by decide) c_93
          | some j =>
            rw [hla] at hl
            have hl : lv_has ls 6 [(5, .int (nI S.q.length)), (4, .int (nI j)), (0, .ref md), (1, .int w), (2, .int b), (3, .int v)] := hl
            refine lv_iload hx hb d_MD_ask_61 (lv_at hl 1 rfl) ?_
            have hj := laN_lt _ _ _ _ hla
            refine lv_if_lt (tgt := 96) hx hb d_MD_ask_63 (by decide) (fun c_178 => ?_) (fun c_178 => ?_)
            · skip
              exact absurd c_178 (nI_pos (by omega))
            · skip
              obtain ⟨s9, hs9⟩ := mp_get (xs := S.q) (i := j) hj
              obtain ⟨s1, s2, s3, s4, s5⟩ := a16 j s9 hs9
              refine lv_aload_n hx hb d_MD_ask_66 rfl (lv_at hl 2 rfl) ?_
              refine fh_get hx hb hG C_MD iG_MD hown hK hP km_1 17 (by decide) gm690 rfl d_MD_ask_67 ?_
              refine lv_iload hx hb d_MD_ask_70 (lv_at hl 1 rfl) ?_
              refine fh_ialK hx hb hK hP 0 ka_3 rfl (k := j) (by omega) (by decide) d_MD_ask_72 ?_
              refine lv_iconst (v := 1) hx hb d_MD_ask_73 (by decide) ?_
              refine lv_icmp_ne (tgt := 96) hx hb d_MD_ask_74 (by decide) (fun c_179 => ?_) (fun c_179 => ?_)
              · skip
                refine lv_aload_n hx hb d_MD_ask_96 rfl (lv_at hl 2 rfl) ?_
                refine fh_get hx hb hG C_MD iG_MD hown hK hP km_1 16 (by decide) gm689 rfl d_MD_ask_97 ?_
                refine lv_aload_n hx hb d_MD_ask_100 rfl (lv_at hl 2 rfl) ?_
                refine fh_get hx hb hG C_MD iG_MD hown hK hP km_1 15 (by decide) gm688 rfl d_MD_ask_101 ?_
                rw [a15]
                refine lv_aload_n hx hb d_MD_ask_104 rfl (lv_at hl 2 rfl) ?_
                refine fh_get hx hb hG C_MD iG_MD hown hK hP km_1 14 (by decide) gm687 rfl d_MD_ask_105 ?_
                refine fh_iasK hx hb hK hP hS 0 ka_2 rfl (k := S.q.length) (by omega) (by decide) d_MD_ask_108 (fun H locs hP hS => ?_)
                obtain ⟨h_180, eh_181⟩ : ∃ z : fh_H, z = va_up h (ad 16) (some (.inl (fh_cI E, 41, .inl (upd (ar 16) S.q.length ((sc 14)))))) := ⟨_, rfl⟩
                have hP : fh_P E.1 vwCl A h_180 H := by rw [eh_181]; exact hP
                obtain ⟨ar_182, ea_183⟩ : ∃ z : Nat → Nat → Int32, z = va_up ar 16 (upd (ar 16) S.q.length ((sc 14))) := ⟨_, rfl⟩
                have m_184 : MDs E h_180 md ad sc ar_182 := by rw [ea_183]; exact hM.setA 16 rfl eh_181
                have K_185 : KM h h_180 md ad := (KM.rfl).trans (KM.upA 16 rfl eh_181)
                have km_186 : h_180 md = some (.inr (7, [.int (sc 0), .int (sc 1), .int (sc 2), .int (sc 3), .int (sc 4), .int (sc 5), .int (sc 6), .int (sc 7), .int (sc 8), .ref (ad 9), .int (sc 10), .ref (ad 11), .ref (ad 12), .ref (ad 13), .int (sc 14), .int (sc 15), .ref (ad 16), .ref (ad 17), .ref (ad 18), .ref (ad 19), .ref (ad 20), .int (sc 21), .ref (ad 22), .ref (ad 23), .int (sc 24), .int (sc 25), .int (sc 26), .int (sc 27), .int (sc 28)])) := m_184.1
                have ka_187 : h_180 (ad 16) = some (.inl (fh_cI E, 41, .inl (ar_182 16))) := m_184.2.1 16 rfl
                have ka_188 : h_180 (ad 17) = some (.inl (fh_cI E, 41, .inl (ar_182 17))) := m_184.2.1 17 rfl
                have ka_189 : h_180 (ad 18) = some (.inl (fh_cI E, 41, .inl (ar_182 18))) := m_184.2.1 18 rfl
                have ka_190 : h_180 (ad 19) = some (.inl (fh_cI E, 41, .inl (ar_182 19))) := m_184.2.1 19 rfl
                have ka_191 : h_180 (ad 20) = some (.inl (fh_cI E, 41, .inl (ar_182 20))) := m_184.2.1 20 rfl
                refine lv_aload_n hx hb d_MD_ask_109 rfl (lv_at hl 2 rfl) ?_
                refine fh_get hx hb hG C_MD iG_MD hown hK hP km_186 17 (by decide) gm690 rfl d_MD_ask_110 ?_
                refine lv_aload_n hx hb d_MD_ask_113 rfl (lv_at hl 2 rfl) ?_
                refine fh_get hx hb hG C_MD iG_MD hown hK hP km_186 15 (by decide) gm688 rfl d_MD_ask_114 ?_
                rw [a15]
                refine lv_iload_n hx hb d_MD_ask_117 rfl (lv_at hl 3 rfl) ?_
                refine fh_iasK hx hb hK hP hS 0 ka_188 rfl (k := S.q.length) (by omega) (by decide) d_MD_ask_118 (fun H locs hP hS => ?_)
                obtain ⟨h_192, eh_193⟩ : ∃ z : fh_H, z = va_up h_180 (ad 17) (some (.inl (fh_cI E, 41, .inl (upd (ar_182 17) S.q.length (w))))) := ⟨_, rfl⟩
                have hP : fh_P E.1 vwCl A h_192 H := by rw [eh_193]; exact hP
                obtain ⟨ar_194, ea_195⟩ : ∃ z : Nat → Nat → Int32, z = va_up ar_182 17 (upd (ar_182 17) S.q.length (w)) := ⟨_, rfl⟩
                have m_196 : MDs E h_192 md ad sc ar_194 := by rw [ea_195]; exact m_184.setA 17 rfl eh_193
                have K_197 : KM h h_192 md ad := (K_185).trans (KM.upA 17 rfl eh_193)
                have km_198 : h_192 md = some (.inr (7, [.int (sc 0), .int (sc 1), .int (sc 2), .int (sc 3), .int (sc 4), .int (sc 5), .int (sc 6), .int (sc 7), .int (sc 8), .ref (ad 9), .int (sc 10), .ref (ad 11), .ref (ad 12), .ref (ad 13), .int (sc 14), .int (sc 15), .ref (ad 16), .ref (ad 17), .ref (ad 18), .ref (ad 19), .ref (ad 20), .int (sc 21), .ref (ad 22), .ref (ad 23), .int (sc 24), .int (sc 25), .int (sc 26), .int (sc 27), .int (sc 28)])) := m_196.1
                have ka_199 : h_192 (ad 16) = some (.inl (fh_cI E, 41, .inl (ar_194 16))) := m_196.2.1 16 rfl
                have ka_200 : h_192 (ad 17) = some (.inl (fh_cI E, 41, .inl (ar_194 17))) := m_196.2.1 17 rfl
                have ka_201 : h_192 (ad 18) = some (.inl (fh_cI E, 41, .inl (ar_194 18))) := m_196.2.1 18 rfl
                have ka_202 : h_192 (ad 19) = some (.inl (fh_cI E, 41, .inl (ar_194 19))) := m_196.2.1 19 rfl
                have ka_203 : h_192 (ad 20) = some (.inl (fh_cI E, 41, .inl (ar_194 20))) := m_196.2.1 20 rfl
                refine lv_aload_n hx hb d_MD_ask_119 rfl (lv_at hl 2 rfl) ?_
                refine fh_get hx hb hG C_MD iG_MD hown hK hP km_198 18 (by decide) gm691 rfl d_MD_ask_120 ?_
                refine lv_aload_n hx hb d_MD_ask_123 rfl (lv_at hl 2 rfl) ?_
                refine fh_get hx hb hG C_MD iG_MD hown hK hP km_198 15 (by decide) gm688 rfl d_MD_ask_124 ?_
                rw [a15]
                refine lv_iload_n hx hb d_MD_ask_127 rfl (lv_at hl 4 rfl) ?_
                refine fh_iasK hx hb hK hP hS 0 ka_201 rfl (k := S.q.length) (by omega) (by decide) d_MD_ask_128 (fun H locs hP hS => ?_)
                obtain ⟨h_204, eh_205⟩ : ∃ z : fh_H, z = va_up h_192 (ad 18) (some (.inl (fh_cI E, 41, .inl (upd (ar_194 18) S.q.length (b))))) := ⟨_, rfl⟩
                have hP : fh_P E.1 vwCl A h_204 H := by rw [eh_205]; exact hP
                obtain ⟨ar_206, ea_207⟩ : ∃ z : Nat → Nat → Int32, z = va_up ar_194 18 (upd (ar_194 18) S.q.length (b)) := ⟨_, rfl⟩
                have m_208 : MDs E h_204 md ad sc ar_206 := by rw [ea_207]; exact m_196.setA 18 rfl eh_205
                have K_209 : KM h h_204 md ad := (K_197).trans (KM.upA 18 rfl eh_205)
                have km_210 : h_204 md = some (.inr (7, [.int (sc 0), .int (sc 1), .int (sc 2), .int (sc 3), .int (sc 4), .int (sc 5), .int (sc 6), .int (sc 7), .int (sc 8), .ref (ad 9), .int (sc 10), .ref (ad 11), .ref (ad 12), .ref (ad 13), .int (sc 14), .int (sc 15), .ref (ad 16), .ref (ad 17), .ref (ad 18), .ref (ad 19), .ref (ad 20), .int (sc 21), .ref (ad 22), .ref (ad 23), .int (sc 24), .int (sc 25), .int (sc 26), .int (sc 27), .int (sc 28)])) := m_208.1
                have ka_211 : h_204 (ad 16) = some (.inl (fh_cI E, 41, .inl (ar_206 16))) := m_208.2.1 16 rfl
                have ka_212 : h_204 (ad 17) = some (.inl (fh_cI E, 41, .inl (ar_206 17))) := m_208.2.1 17 rfl
                have ka_213 : h_204 (ad 18) = some (.inl (fh_cI E, 41, .inl (ar_206 18))) := m_208.2.1 18 rfl
                have ka_214 : h_204 (ad 19) = some (.inl (fh_cI E, 41, .inl (ar_206 19))) := m_208.2.1 19 rfl
                have ka_215 : h_204 (ad 20) = some (.inl (fh_cI E, 41, .inl (ar_206 20))) := m_208.2.1 20 rfl
                refine lv_aload_n hx hb d_MD_ask_129 rfl (lv_at hl 2 rfl) ?_
                refine fh_get hx hb hG C_MD iG_MD hown hK hP km_210 19 (by decide) gm692 rfl d_MD_ask_130 ?_
                refine lv_aload_n hx hb d_MD_ask_133 rfl (lv_at hl 2 rfl) ?_
                refine fh_get hx hb hG C_MD iG_MD hown hK hP km_210 15 (by decide) gm688 rfl d_MD_ask_134 ?_
                rw [a15]
                refine lv_iload_n hx hb d_MD_ask_137 rfl (lv_at hl 5 rfl) ?_
                refine fh_iasK hx hb hK hP hS 0 ka_214 rfl (k := S.q.length) (by omega) (by decide) d_MD_ask_138 (fun H locs hP hS => ?_)
                obtain ⟨h_216, eh_217⟩ : ∃ z : fh_H, z = va_up h_204 (ad 19) (some (.inl (fh_cI E, 41, .inl (upd (ar_206 19) S.q.length (v))))) := ⟨_, rfl⟩
                have hP : fh_P E.1 vwCl A h_216 H := by rw [eh_217]; exact hP
                obtain ⟨ar_218, ea_219⟩ : ∃ z : Nat → Nat → Int32, z = va_up ar_206 19 (upd (ar_206 19) S.q.length (v)) := ⟨_, rfl⟩
                have m_220 : MDs E h_216 md ad sc ar_218 := by rw [ea_219]; exact m_208.setA 19 rfl eh_217
                have K_221 : KM h h_216 md ad := (K_209).trans (KM.upA 19 rfl eh_217)
                have km_222 : h_216 md = some (.inr (7, [.int (sc 0), .int (sc 1), .int (sc 2), .int (sc 3), .int (sc 4), .int (sc 5), .int (sc 6), .int (sc 7), .int (sc 8), .ref (ad 9), .int (sc 10), .ref (ad 11), .ref (ad 12), .ref (ad 13), .int (sc 14), .int (sc 15), .ref (ad 16), .ref (ad 17), .ref (ad 18), .ref (ad 19), .ref (ad 20), .int (sc 21), .ref (ad 22), .ref (ad 23), .int (sc 24), .int (sc 25), .int (sc 26), .int (sc 27), .int (sc 28)])) := m_220.1
                have ka_223 : h_216 (ad 16) = some (.inl (fh_cI E, 41, .inl (ar_218 16))) := m_220.2.1 16 rfl
                have ka_224 : h_216 (ad 17) = some (.inl (fh_cI E, 41, .inl (ar_218 17))) := m_220.2.1 17 rfl
                have ka_225 : h_216 (ad 18) = some (.inl (fh_cI E, 41, .inl (ar_218 18))) := m_220.2.1 18 rfl
                have ka_226 : h_216 (ad 19) = some (.inl (fh_cI E, 41, .inl (ar_218 19))) := m_220.2.1 19 rfl
                have ka_227 : h_216 (ad 20) = some (.inl (fh_cI E, 41, .inl (ar_218 20))) := m_220.2.1 20 rfl
                refine lv_aload_n hx hb d_MD_ask_139 rfl (lv_at hl 2 rfl) ?_
                refine fh_get hx hb hG C_MD iG_MD hown hK hP km_222 20 (by decide) gm693 rfl d_MD_ask_140 ?_
                refine lv_aload_n hx hb d_MD_ask_143 rfl (lv_at hl 2 rfl) ?_
                refine fh_get hx hb hG C_MD iG_MD hown hK hP km_222 15 (by decide) gm688 rfl d_MD_ask_144 ?_
                rw [a15]
                refine lv_aload_n hx hb d_MD_ask_147 rfl (lv_at hl 2 rfl) ?_
                refine fh_get hx hb hG C_MD iG_MD hown hK hP km_222 1 (by decide) gm674 rfl d_MD_ask_148 ?_
                refine fh_iasK hx hb hK hP hS 0 ka_227 rfl (k := S.q.length) (by omega) (by decide) d_MD_ask_151 (fun H locs hP hS => ?_)
                obtain ⟨h_228, eh_229⟩ : ∃ z : fh_H, z = va_up h_216 (ad 20) (some (.inl (fh_cI E, 41, .inl (upd (ar_218 20) S.q.length ((sc 1)))))) := ⟨_, rfl⟩
                have hP : fh_P E.1 vwCl A h_228 H := by rw [eh_229]; exact hP
                obtain ⟨ar_230, ea_231⟩ : ∃ z : Nat → Nat → Int32, z = va_up ar_218 20 (upd (ar_218 20) S.q.length ((sc 1))) := ⟨_, rfl⟩
                have m_232 : MDs E h_228 md ad sc ar_230 := by rw [ea_231]; exact m_220.setA 20 rfl eh_229
                have K_233 : KM h h_228 md ad := (K_221).trans (KM.upA 20 rfl eh_229)
                have km_234 : h_228 md = some (.inr (7, [.int (sc 0), .int (sc 1), .int (sc 2), .int (sc 3), .int (sc 4), .int (sc 5), .int (sc 6), .int (sc 7), .int (sc 8), .ref (ad 9), .int (sc 10), .ref (ad 11), .ref (ad 12), .ref (ad 13), .int (sc 14), .int (sc 15), .ref (ad 16), .ref (ad 17), .ref (ad 18), .ref (ad 19), .ref (ad 20), .int (sc 21), .ref (ad 22), .ref (ad 23), .int (sc 24), .int (sc 25), .int (sc 26), .int (sc 27), .int (sc 28)])) := m_232.1
                have ka_235 : h_228 (ad 16) = some (.inl (fh_cI E, 41, .inl (ar_230 16))) := m_232.2.1 16 rfl
                have ka_236 : h_228 (ad 17) = some (.inl (fh_cI E, 41, .inl (ar_230 17))) := m_232.2.1 17 rfl
                have ka_237 : h_228 (ad 18) = some (.inl (fh_cI E, 41, .inl (ar_230 18))) := m_232.2.1 18 rfl
                have ka_238 : h_228 (ad 19) = some (.inl (fh_cI E, 41, .inl (ar_230 19))) := m_232.2.1 19 rfl
                have ka_239 : h_228 (ad 20) = some (.inl (fh_cI E, 41, .inl (ar_230 20))) := m_232.2.1 20 rfl
                refine lv_aload_n hx hb d_MD_ask_152 rfl (lv_at hl 2 rfl) ?_
                refine lv_dup hx hb d_MD_ask_153 rfl ?_
                refine fh_get hx hb hG C_MD iG_MD hown hK hP km_234 14 (by decide) gm687 rfl d_MD_ask_154 ?_
                refine lv_iconst (v := 1) hx hb d_MD_ask_157 (by decide) ?_
                refine lv_iadd hx hb d_MD_ask_158 ?_
                refine fh_put hx hb hG C_MD iG_MD hown hK hP hS km_234 14 (by decide) gm687 rfl (v := .int (((sc 14)) + 1)) rfl rfl (Nat.le_of_ble_eq_true rfl) d_MD_ask_159 (fun H locs hP hS => ?_)
                obtain ⟨h_240, eh_241⟩ : ∃ z : fh_H, z = va_up h_228 md (some (.inr (7, [.int (sc 0), .int (sc 1), .int (sc 2), .int (sc 3), .int (sc 4), .int (sc 5), .int (sc 6), .int (sc 7), .int (sc 8), .ref (ad 9), .int (sc 10), .ref (ad 11), .ref (ad 12), .ref (ad 13), .int (((sc 14)) + 1), .int (sc 15), .ref (ad 16), .ref (ad 17), .ref (ad 18), .ref (ad 19), .ref (ad 20), .int (sc 21), .ref (ad 22), .ref (ad 23), .int (sc 24), .int (sc 25), .int (sc 26), .int (sc 27), .int (sc 28)]))) := ⟨_, rfl⟩
                have hP : fh_P E.1 vwCl A h_240 H := by rw [eh_241]; exact hP
                obtain ⟨sc_242, es_243⟩ : ∃ z : Nat → Int32, z = upd sc 14 ((((sc 14)) + 1)) := ⟨_, rfl⟩
                have m_244 : MDs E h_240 md ad sc_242 ar_230 := by rw [es_243]; exact m_232.setS (by rw [eh_241]; rfl)
                have K_245 : KM h h_240 md ad := (K_233).trans (KM.upS eh_241)
                have km_246 : h_240 md = some (.inr (7, [.int (sc_242 0), .int (sc_242 1), .int (sc_242 2), .int (sc_242 3), .int (sc_242 4), .int (sc_242 5), .int (sc_242 6), .int (sc_242 7), .int (sc_242 8), .ref (ad 9), .int (sc_242 10), .ref (ad 11), .ref (ad 12), .ref (ad 13), .int (sc_242 14), .int (sc_242 15), .ref (ad 16), .ref (ad 17), .ref (ad 18), .ref (ad 19), .ref (ad 20), .int (sc_242 21), .ref (ad 22), .ref (ad 23), .int (sc_242 24), .int (sc_242 25), .int (sc_242 26), .int (sc_242 27), .int (sc_242 28)])) := m_244.1
                have ka_247 : h_240 (ad 16) = some (.inl (fh_cI E, 41, .inl (ar_230 16))) := m_244.2.1 16 rfl
                have ka_248 : h_240 (ad 17) = some (.inl (fh_cI E, 41, .inl (ar_230 17))) := m_244.2.1 17 rfl
                have ka_249 : h_240 (ad 18) = some (.inl (fh_cI E, 41, .inl (ar_230 18))) := m_244.2.1 18 rfl
                have ka_250 : h_240 (ad 19) = some (.inl (fh_cI E, 41, .inl (ar_230 19))) := m_244.2.1 19 rfl
                have ka_251 : h_240 (ad 20) = some (.inl (fh_cI E, 41, .inl (ar_230 20))) := m_244.2.1 20 rfl
                refine lv_aload_n hx hb d_MD_ask_162 rfl (lv_at hl 2 rfl) ?_
                refine lv_dup hx hb d_MD_ask_163 rfl ?_
                refine fh_get hx hb hG C_MD iG_MD hown hK hP km_246 15 (by decide) gm688 rfl d_MD_ask_164 ?_
                refine lv_iconst (v := 1) hx hb d_MD_ask_167 (by decide) ?_
                refine lv_iadd hx hb d_MD_ask_168 ?_
                refine fh_put hx hb hG C_MD iG_MD hown hK hP hS km_246 15 (by decide) gm688 rfl (v := .int (((sc_242 15)) + 1)) rfl rfl (Nat.le_of_ble_eq_true rfl) d_MD_ask_169 (fun H locs hP hS => ?_)
                obtain ⟨h_252, eh_253⟩ : ∃ z : fh_H, z = va_up h_240 md (some (.inr (7, [.int (sc_242 0), .int (sc_242 1), .int (sc_242 2), .int (sc_242 3), .int (sc_242 4), .int (sc_242 5), .int (sc_242 6), .int (sc_242 7), .int (sc_242 8), .ref (ad 9), .int (sc_242 10), .ref (ad 11), .ref (ad 12), .ref (ad 13), .int (sc_242 14), .int (((sc_242 15)) + 1), .ref (ad 16), .ref (ad 17), .ref (ad 18), .ref (ad 19), .ref (ad 20), .int (sc_242 21), .ref (ad 22), .ref (ad 23), .int (sc_242 24), .int (sc_242 25), .int (sc_242 26), .int (sc_242 27), .int (sc_242 28)]))) := ⟨_, rfl⟩
                have hP : fh_P E.1 vwCl A h_252 H := by rw [eh_253]; exact hP
                obtain ⟨sc_254, es_255⟩ : ∃ z : Nat → Int32, z = upd sc_242 15 ((((sc_242 15)) + 1)) := ⟨_, rfl⟩
                have m_256 : MDs E h_252 md ad sc_254 ar_230 := by rw [es_255]; exact m_244.setS (by rw [eh_253]; rfl)
                have K_257 : KM h h_252 md ad := (K_245).trans (KM.upS eh_253)
                have km_258 : h_252 md = some (.inr (7, [.int (sc_254 0), .int (sc_254 1), .int (sc_254 2), .int (sc_254 3), .int (sc_254 4), .int (sc_254 5), .int (sc_254 6), .int (sc_254 7), .int (sc_254 8), .ref (ad 9), .int (sc_254 10), .ref (ad 11), .ref (ad 12), .ref (ad 13), .int (sc_254 14), .int (sc_254 15), .ref (ad 16), .ref (ad 17), .ref (ad 18), .ref (ad 19), .ref (ad 20), .int (sc_254 21), .ref (ad 22), .ref (ad 23), .int (sc_254 24), .int (sc_254 25), .int (sc_254 26), .int (sc_254 27), .int (sc_254 28)])) := m_256.1
                have ka_259 : h_252 (ad 16) = some (.inl (fh_cI E, 41, .inl (ar_230 16))) := m_256.2.1 16 rfl
                have ka_260 : h_252 (ad 17) = some (.inl (fh_cI E, 41, .inl (ar_230 17))) := m_256.2.1 17 rfl
                have ka_261 : h_252 (ad 18) = some (.inl (fh_cI E, 41, .inl (ar_230 18))) := m_256.2.1 18 rfl
                have ka_262 : h_252 (ad 19) = some (.inl (fh_cI E, 41, .inl (ar_230 19))) := m_256.2.1 19 rfl
                have ka_263 : h_252 (ad 20) = some (.inl (fh_cI E, 41, .inl (ar_230 20))) := m_256.2.1 20 rfl
                have eA : ar_230 = lyA ar S.q.length (S.nn, w, b, S.tm, v) := by rw [ea_231, ea_219, ea_207, ea_195, ea_183, ← a14, ← a1]; rfl
                have eS : sc_254 = upd (upd sc 14 (sc 14 + 1)) 15 (sc 15 + 1) := by rw [es_255, es_243]; rfl
                have hX : askM S w b v = addM S w b v := by rw [c_8]; exact (if_pos rfl).trans (wbM_2 (fun k hk => by rw [hla] at hk; cases hk; rw [hs9]; exact fun z => c_179 (s2.trans (Option.some.inj z))) 0)
                exact fh_vret hx hb hr hlocks (Nat.le_of_ble_eq_true rfl) (Nat.le_of_ble_eq_true rfl) hP hS ⟨rfl, sc_254, ar_230, m_256, by rw [eA, eS, hX]; exact hR0.add hN hN2 hv hq, by rw [eS]; rfl, K_257⟩ d_MD_ask_172
              · skip
                refine lv_aload_n hx hb d_MD_ask_77 rfl (lv_at hl 2 rfl) ?_
                refine fh_get hx hb hG C_MD iG_MD hown hK hP km_1 19 (by decide) gm692 rfl d_MD_ask_78 ?_
                refine lv_iload hx hb d_MD_ask_81 (lv_at hl 1 rfl) ?_
                refine lv_iload_n hx hb d_MD_ask_83 rfl (lv_at hl 5 rfl) ?_
                refine fh_iasK hx hb hK hP hS 0 ka_5 rfl (k := j) (by omega) (by decide) d_MD_ask_84 (fun H locs hP hS => ?_)
                obtain ⟨h_264, eh_265⟩ : ∃ z : fh_H, z = va_up h (ad 19) (some (.inl (fh_cI E, 41, .inl (upd (ar 19) j (v))))) := ⟨_, rfl⟩
                have hP : fh_P E.1 vwCl A h_264 H := by rw [eh_265]; exact hP
                obtain ⟨ar_266, ea_267⟩ : ∃ z : Nat → Nat → Int32, z = va_up ar 19 (upd (ar 19) j (v)) := ⟨_, rfl⟩
                have m_268 : MDs E h_264 md ad sc ar_266 := by rw [ea_267]; exact hM.setA 19 rfl eh_265
                have K_269 : KM h h_264 md ad := (KM.rfl).trans (KM.upA 19 rfl eh_265)
                have km_270 : h_264 md = some (.inr (7, [.int (sc 0), .int (sc 1), .int (sc 2), .int (sc 3), .int (sc 4), .int (sc 5), .int (sc 6), .int (sc 7), .int (sc 8), .ref (ad 9), .int (sc 10), .ref (ad 11), .ref (ad 12), .ref (ad 13), .int (sc 14), .int (sc 15), .ref (ad 16), .ref (ad 17), .ref (ad 18), .ref (ad 19), .ref (ad 20), .int (sc 21), .ref (ad 22), .ref (ad 23), .int (sc 24), .int (sc 25), .int (sc 26), .int (sc 27), .int (sc 28)])) := m_268.1
                have ka_271 : h_264 (ad 16) = some (.inl (fh_cI E, 41, .inl (ar_266 16))) := m_268.2.1 16 rfl
                have ka_272 : h_264 (ad 17) = some (.inl (fh_cI E, 41, .inl (ar_266 17))) := m_268.2.1 17 rfl
                have ka_273 : h_264 (ad 18) = some (.inl (fh_cI E, 41, .inl (ar_266 18))) := m_268.2.1 18 rfl
                have ka_274 : h_264 (ad 19) = some (.inl (fh_cI E, 41, .inl (ar_266 19))) := m_268.2.1 19 rfl
                have ka_275 : h_264 (ad 20) = some (.inl (fh_cI E, 41, .inl (ar_266 20))) := m_268.2.1 20 rfl
                refine lv_aload_n hx hb d_MD_ask_85 rfl (lv_at hl 2 rfl) ?_
                refine lv_dup hx hb d_MD_ask_86 rfl ?_
                refine fh_get hx hb hG C_MD iG_MD hown hK hP km_270 6 (by decide) gm679 rfl d_MD_ask_87 ?_
                refine lv_iconst (v := 1) hx hb d_MD_ask_90 (by decide) ?_
                refine lv_iadd hx hb d_MD_ask_91 ?_
                refine fh_put hx hb hG C_MD iG_MD hown hK hP hS km_270 6 (by decide) gm679 rfl (v := .int (((sc 6)) + 1)) rfl rfl (Nat.le_of_ble_eq_true rfl) d_MD_ask_92 (fun H locs hP hS => ?_)
                obtain ⟨h_276, eh_277⟩ : ∃ z : fh_H, z = va_up h_264 md (some (.inr (7, [.int (sc 0), .int (sc 1), .int (sc 2), .int (sc 3), .int (sc 4), .int (sc 5), .int (((sc 6)) + 1), .int (sc 7), .int (sc 8), .ref (ad 9), .int (sc 10), .ref (ad 11), .ref (ad 12), .ref (ad 13), .int (sc 14), .int (sc 15), .ref (ad 16), .ref (ad 17), .ref (ad 18), .ref (ad 19), .ref (ad 20), .int (sc 21), .ref (ad 22), .ref (ad 23), .int (sc 24), .int (sc 25), .int (sc 26), .int (sc 27), .int (sc 28)]))) := ⟨_, rfl⟩
                have hP : fh_P E.1 vwCl A h_276 H := by rw [eh_277]; exact hP
                obtain ⟨sc_278, es_279⟩ : ∃ z : Nat → Int32, z = upd sc 6 ((((sc 6)) + 1)) := ⟨_, rfl⟩
                have m_280 : MDs E h_276 md ad sc_278 ar_266 := by rw [es_279]; exact m_268.setS (by rw [eh_277]; rfl)
                have K_281 : KM h h_276 md ad := (K_269).trans (KM.upS eh_277)
                have km_282 : h_276 md = some (.inr (7, [.int (sc_278 0), .int (sc_278 1), .int (sc_278 2), .int (sc_278 3), .int (sc_278 4), .int (sc_278 5), .int (sc_278 6), .int (sc_278 7), .int (sc_278 8), .ref (ad 9), .int (sc_278 10), .ref (ad 11), .ref (ad 12), .ref (ad 13), .int (sc_278 14), .int (sc_278 15), .ref (ad 16), .ref (ad 17), .ref (ad 18), .ref (ad 19), .ref (ad 20), .int (sc_278 21), .ref (ad 22), .ref (ad 23), .int (sc_278 24), .int (sc_278 25), .int (sc_278 26), .int (sc_278 27), .int (sc_278 28)])) := m_280.1
                have ka_283 : h_276 (ad 16) = some (.inl (fh_cI E, 41, .inl (ar_266 16))) := m_280.2.1 16 rfl
                have ka_284 : h_276 (ad 17) = some (.inl (fh_cI E, 41, .inl (ar_266 17))) := m_280.2.1 17 rfl
                have ka_285 : h_276 (ad 18) = some (.inl (fh_cI E, 41, .inl (ar_266 18))) := m_280.2.1 18 rfl
                have ka_286 : h_276 (ad 19) = some (.inl (fh_cI E, 41, .inl (ar_266 19))) := m_280.2.1 19 rfl
                have ka_287 : h_276 (ad 20) = some (.inl (fh_cI E, 41, .inl (ar_266 20))) := m_280.2.1 20 rfl
                exact fh_vret hx hb hr hlocks (Nat.le_of_ble_eq_true rfl) (Nat.le_of_ble_eq_true rfl) hP hS ⟨rfl, sc_278, ar_266, m_280, by rw [ea_267, es_279, c_8]; exact hR0.stv hla (by rw [hs9]; exact congrArg some (s2.symm.trans c_179)) (by omega), by rw [es_279]; rfl, K_281⟩ d_MD_ask_95
      · skip
        exact absurd (show sc 15 ≤ nI k by rw [a15, show k = S.q.length by omega]; exact nI_le (Nat.le_refl _) (by omega)) c_7
    | succ f ih =>
      intro k ls hkf hl
      refine lv_iload hx hb d_MD_ask_6 (lv_at hl 0 rfl) ?_
      refine lv_aload_n hx hb d_MD_ask_8 rfl (lv_at hl 2 rfl) ?_
      refine fh_get hx hb hG C_MD iG_MD hown hK hP km_1 15 (by decide) gm688 rfl d_MD_ask_9 ?_
      refine lv_icmp_ge (tgt := 56) hx hb d_MD_ask_12 (by decide) (fun c_288 => ?_) (fun c_288 => ?_)
      · skip
        rw [a15] at c_288
        exact absurd c_288 (nI_ge (by omega) (by omega))
      · skip
        obtain ⟨r9, hr9⟩ := mp_get (xs := S.q) (i := k) (by omega)
        obtain ⟨r1, r2, r3, r4, r5⟩ := a16 k r9 hr9
        refine lv_aload_n hx hb d_MD_ask_15 rfl (lv_at hl 2 rfl) ?_
        refine fh_get hx hb hG C_MD iG_MD hown hK hP km_1 17 (by decide) gm690 rfl d_MD_ask_16 ?_
        refine lv_iload hx hb d_MD_ask_19 (lv_at hl 0 rfl) ?_
        refine fh_ialK hx hb hK hP 0 ka_3 rfl (k := k) (by omega) (by decide) d_MD_ask_21 ?_
        refine lv_iconst (v := 2) hx hb d_MD_ask_22 (by decide) ?_
        refine lv_icmp_ne (tgt := 30) hx hb d_MD_ask_23 (by decide) (fun c_289 => ?_) (fun c_289 => ?_)
        · skip
          refine lv_aload_n hx hb d_MD_ask_30 rfl (lv_at hl 2 rfl) ?_
          refine fh_get hx hb hG C_MD iG_MD hown hK hP km_1 18 (by decide) gm691 rfl d_MD_ask_31 ?_
          refine lv_iload hx hb d_MD_ask_34 (lv_at hl 0 rfl) ?_
          refine fh_ialK hx hb hK hP 0 ka_4 rfl (k := k) (by omega) (by decide) d_MD_ask_36 ?_
          refine lv_iload_n hx hb d_MD_ask_37 rfl (lv_at hl 4 rfl) ?_
          refine lv_icmp_ne (tgt := 46) hx hb d_MD_ask_38 (by decide) (fun c_290 => ?_) (fun c_290 => ?_)
          · skip
            refine lv_iload hx hb d_MD_ask_46 (lv_at hl 1 rfl) ?_
            refine lv_istore (lv' := [(4, .int (pl (laN S.q b k))), (5, .int (nI k)), (0, .ref md), (1, .int w), (2, .int b), (3, .int v)]) hx hb d_MD_ask_48 hl (by decide) rfl (fun ls hl => ?_)
            refine lv_iinc (v := ((nI k)) + 1) (lv' := [(5, .int (((nI k)) + 1)), (4, .int (pl (laN S.q b k))), (0, .ref md), (1, .int w), (2, .int b), (3, .int v)]) hx hb d_MD_ask_50 hl (k := 1) rfl rfl (by decide) rfl (fun ls hl => ?_)
            refine lv_goto (tgt := 6) hx hb d_MD_ask_53 (by decide) ?_
            have e6 : laN S.q b (k + 1) = laN S.q b k := (laN_s hr9).trans ((if_neg (fun z => c_289 (r2.trans z))).trans (if_neg (fun z => c_290 (r3.trans z))))
            exact ih (k + 1) ls (by omega) (by rw [nI_succ, e6]; exact lv_sub hl [0, 1, 2, 3, 4, 5] rfl)
          · skip
            refine lv_iload hx hb d_MD_ask_41 (lv_at hl 0 rfl) ?_
            refine lv_goto (tgt := 48) hx hb d_MD_ask_43 (by decide) ?_
            refine lv_istore (lv' := [(4, .int (nI k)), (5, .int (nI k)), (0, .ref md), (1, .int w), (2, .int b), (3, .int v)]) hx hb d_MD_ask_48 hl (by decide) rfl (fun ls hl => ?_)
            refine lv_iinc (v := ((nI k)) + 1) (lv' := [(5, .int (((nI k)) + 1)), (4, .int (nI k)), (0, .ref md), (1, .int w), (2, .int b), (3, .int v)]) hx hb d_MD_ask_50 hl (k := 1) rfl rfl (by decide) rfl (fun ls hl => ?_)
            refine lv_goto (tgt := 6) hx hb d_MD_ask_53 (by decide) ?_
            have e6 : laN S.q b (k + 1) = some k := (laN_s hr9).trans ((if_neg (fun z => c_289 (r2.trans z))).trans (if_pos (r3.symm.trans c_290)))
            exact ih (k + 1) ls (by omega) (by rw [nI_succ, e6]; exact lv_sub hl [0, 1, 2, 3, 4, 5] rfl)
        · skip
          refine lv_iconst (v := (-1)) hx hb d_MD_ask_26 (by decide) ?_
          refine lv_goto (tgt := 48) hx hb d_MD_ask_27 (by decide) ?_
          refine lv_istore (lv' := [(4, .int (-1)), (5, .int (nI k)), (0, .ref md), (1, .int w), (2, .int b), (3, .int v)]) hx hb d_MD_ask_48 hl (by decide) rfl (fun ls hl => ?_)
          refine lv_iinc (v := ((nI k)) + 1) (lv' := [(5, .int (((nI k)) + 1)), (4, .int (-1)), (0, .ref md), (1, .int w), (2, .int b), (3, .int v)]) hx hb d_MD_ask_50 hl (k := 1) rfl rfl (by decide) rfl (fun ls hl => ?_)
          refine lv_goto (tgt := 6) hx hb d_MD_ask_53 (by decide) ?_
          have e6 : laN S.q b (k + 1) = none := (laN_s hr9).trans (if_pos (r2.symm.trans c_289))
          exact ih (k + 1) ls (by omega) (by rw [nI_succ, e6]; exact lv_sub hl [0, 1, 2, 3, 4, 5] rfl)
  exact loop S.q.length 0 ls (by omega) (by rw [nI_0]; exact hl)

set_option maxHeartbeats 800000 in
set_option maxRecDepth 100000 in
theorem c_MD_makeRoom (l : Launch) (E : fh_E) (h : fh_H) (md : Nat) (ad : Nat → Nat) (sc : Nat → Int32) (ar : Nat → Nat → Int32) (hM : MDs E h md ad sc ar) (S : mS) (t : Nat) (hR : RM sc ar S) (hI : Inv S t) (N : Nat) (hN : NB S N) (hN2 : N < 2 ^ 31) (hq : S.q.length < 40)  : fh_Met l y_MD_makeRoom w_MD_makeRoom ({ frames := 1, cells := 0, slots := 0, locals := 25 }) E [.ref md] h (fun r h1 => r = none ∧ ∃ sc1 ar1, MDs E h1 md ad sc1 ar1 ∧ RM sc1 ar1 (roomM S) ∧ sc1 0 = sc 0 ∧ KM h h1 md ad) 0 0 := by
  refine fh_ofW (cc := b_MD_makeRoom) (maxL := 4) (ret := none) (by decide) rfl (Nat.le_of_ble_eq_true rfl) ?_
  intro p e s m below meth c A ls hx hb hr hml hown hts hlocks hname hnoh hadm hA hK hZ hP hS hl
  have hG : ∀ w ∈ G, w.before _ s = true := fun w hw => hts w (List.mem_cons_of_mem _ hw)
  have hown : s.vm.findClass R_MD = some m.cls := hown
  have hl : lv_has ls 4 [(0, .ref md)] := hl
  have hR0 := hR
  obtain ⟨⟨a1, a2, a3, a4, a5, a6, a7, a8⟩, a9, ⟨a10, a11, a12⟩, a14, ⟨a15, a16⟩, ⟨a21, a22⟩, ⟨a24, a25⟩, a26, a27, a28⟩ := hR
  have i1 := hI.bs10
  have km_1 : h md = some (.inr (7, [.int (sc 0), .int (sc 1), .int (sc 2), .int (sc 3), .int (sc 4), .int (sc 5), .int (sc 6), .int (sc 7), .int (sc 8), .ref (ad 9), .int (sc 10), .ref (ad 11), .ref (ad 12), .ref (ad 13), .int (sc 14), .int (sc 15), .ref (ad 16), .ref (ad 17), .ref (ad 18), .ref (ad 19), .ref (ad 20), .int (sc 21), .ref (ad 22), .ref (ad 23), .int (sc 24), .int (sc 25), .int (sc 26), .int (sc 27), .int (sc 28)])) := hM.1
  have ka_2 : h (ad 11) = some (.inl (fh_cI E, 11, .inl (ar 11))) := hM.2.1 11 rfl
  have ka_3 : h (ad 12) = some (.inl (fh_cI E, 11, .inl (ar 12))) := hM.2.1 12 rfl
  have ka_4 : h (ad 13) = some (.inl (fh_cZ E, 11, .inl (ar 13))) := hM.2.1 13 rfl
  refine lv_aload_n hx hb d_MD_makeRoom_0 rfl (lv_at hl 0 rfl) ?_
  refine fh_get hx hb hG C_MD iG_MD hown hK hP km_1 10 (by decide) gm683 rfl d_MD_makeRoom_1 ?_
  rw [a10]
  refine lv_bipush (v := 10) hx hb d_MD_makeRoom_4 (by decide) ?_
  refine lv_icmp_ge (tgt := 10) hx hb d_MD_makeRoom_6 (by decide) (fun c_5 => ?_) (fun c_5 => ?_)
  · skip
    have hl10 : ¬ S.bs.length < 10 := fun z => absurd (nI_lt z (by decide)) (Int32.not_lt.mpr c_5)
    cases hbs : S.bs with
    | nil => rw [hbs] at hl10; exact absurd (by decide) hl10
    | cons c9 t9 =>
      obtain ⟨g1, g2, g3⟩ := a11 0 c9 (by rw [hbs]; rfl)
      have hz := a12 c9 (by rw [hbs]; exact List.mem_cons_self)
      refine lv_aload_n hx hb d_MD_makeRoom_10 rfl (lv_at hl 0 rfl) ?_
      refine fh_get hx hb hG C_MD iG_MD hown hK hP km_1 11 (by decide) gm684 rfl d_MD_makeRoom_11 ?_
      refine lv_iconst (v := 0) hx hb d_MD_makeRoom_14 (by decide) ?_
      refine W.eq (g2 := F0 m 15 ls [.int (nI 0), .ref (ad 11)]) rfl ?_
      refine fh_ialK hx hb hK hP 0 ka_2 rfl (k := 0) (by omega) (by decide) d_MD_makeRoom_15 ?_
      rw [g1]
      refine lv_istore_n (lv' := [(1, .int (c9.1)), (0, .ref md)]) hx hb d_MD_makeRoom_16 rfl hl (by decide) rfl (fun ls hl => ?_)
      refine lv_aload_n hx hb d_MD_makeRoom_17 rfl (lv_at hl 1 rfl) ?_
      refine fh_get hx hb hG C_MD iG_MD hown hK hP km_1 12 (by decide) gm685 rfl d_MD_makeRoom_18 ?_
      refine lv_iconst (v := 0) hx hb d_MD_makeRoom_21 (by decide) ?_
      refine W.eq (g2 := F0 m 22 ls [.int (nI 0), .ref (ad 12)]) rfl ?_
      refine fh_ialK hx hb hK hP 0 ka_3 rfl (k := 0) (by omega) (by decide) d_MD_makeRoom_22 ?_
      rw [g2]
      refine lv_istore_n (lv' := [(2, .int (c9.2.1)), (1, .int (c9.1)), (0, .ref md)]) hx hb d_MD_makeRoom_23 rfl hl (by decide) rfl (fun ls hl => ?_)
      refine lv_aload_n hx hb d_MD_makeRoom_24 rfl (lv_at hl 2 rfl) ?_
      refine fh_get hx hb hG C_MD iG_MD hown hK hP km_1 13 (by decide) gm686 rfl d_MD_makeRoom_25 ?_
      refine lv_iconst (v := 0) hx hb d_MD_makeRoom_28 (by decide) ?_
      refine W.eq (g2 := F0 m 29 ls [.int (nI 0), .ref (ad 13)]) rfl ?_
      refine fh_zalK hx hb hK hP 3 ka_4 rfl (k := 0) (by omega) (by decide) d_MD_makeRoom_29 ?_
      rw [g3]
      refine lv_istore_n (lv' := [(3, .int (c9.2.2)), (2, .int (c9.2.1)), (1, .int (c9.1)), (0, .ref md)]) hx hb d_MD_makeRoom_30 rfl hl (by decide) rfl (fun ls hl => ?_)
      refine lv_aload_n hx hb d_MD_makeRoom_31 rfl (lv_at hl 3 rfl) ?_
      refine lv_iconst (v := 0) hx hb d_MD_makeRoom_32 (by decide) ?_
      refine W.eq (g2 := F0 m 33 ls [.int (nI 0), .ref md]) rfl ?_
      refine fh_callV (C := R_MD) (y := y_MD_closeUp) (bytes := b_MD_closeUp) (maxL := 3) (ret := none) (index := 58) (As := [.int (nI 0)]) (rest := []) ⟨hx, hb, hml, hown, hG⟩ (c_MD_closeUp l E h md ad sc ar hM S.bs a11 a12 a10 (by omega) 0 (by rw [hbs]; exact Nat.succ_pos _)) (cwV 1 hG (gV gm777 gm779 gs_MD_closeUp gm8 gm780) rfl rfl rfl ⟨rfl, hdy_MD_closeUp⟩ ⟨Nat.le_of_ble_eq_true rfl, Nat.le_of_ble_eq_true rfl⟩) C_MD.1 km_1 hK hZ hP hS hA rfl hl.1 rfl (Nat.le_of_ble_eq_true rfl) d_MD_makeRoom_33 ⟨Nat.le_of_ble_eq_true rfl, Nat.le_of_ble_eq_true rfl⟩ (fun r h_6 H locs hq9 hP hS => ?_)
      obtain ⟨rfl, ar_8, m_9, a_13, b_14, K_11⟩ := hq9
      have K_15 : KM h h_6 md ad := (KM.rfl).trans K_11
      refine W.eq (g2 := F0 m 36 ls []) rfl ?_
      obtain ⟨sc_16, es_17⟩ : ∃ z : Nat → Int32, z = upd sc 10 (nI (S.bs.length - 1)) := ⟨_, rfl⟩
      rw [← es_17] at m_9
      have km_18 : h_6 md = some (.inr (7, [.int (sc_16 0), .int (sc_16 1), .int (sc_16 2), .int (sc_16 3), .int (sc_16 4), .int (sc_16 5), .int (sc_16 6), .int (sc_16 7), .int (sc_16 8), .ref (ad 9), .int (sc_16 10), .ref (ad 11), .ref (ad 12), .ref (ad 13), .int (sc_16 14), .int (sc_16 15), .ref (ad 16), .ref (ad 17), .ref (ad 18), .ref (ad 19), .ref (ad 20), .int (sc_16 21), .ref (ad 22), .ref (ad 23), .int (sc_16 24), .int (sc_16 25), .int (sc_16 26), .int (sc_16 27), .int (sc_16 28)])) := m_9.1
      refine lv_aload_n hx hb d_MD_makeRoom_36 rfl (lv_at hl 3 rfl) ?_
      refine lv_dup hx hb d_MD_makeRoom_37 rfl ?_
      refine fh_get hx hb hG C_MD iG_MD hown hK hP km_18 5 (by decide) gm678 rfl d_MD_makeRoom_38 ?_
      refine lv_iconst (v := 1) hx hb d_MD_makeRoom_41 (by decide) ?_
      refine lv_iadd hx hb d_MD_makeRoom_42 ?_
      refine fh_put hx hb hG C_MD iG_MD hown hK hP hS km_18 5 (by decide) gm678 rfl (v := .int (((sc_16 5)) + 1)) rfl rfl (Nat.le_of_ble_eq_true rfl) d_MD_makeRoom_43 (fun H locs hP hS => ?_)
      obtain ⟨h_19, eh_20⟩ : ∃ z : fh_H, z = va_up h_6 md (some (.inr (7, [.int (sc_16 0), .int (sc_16 1), .int (sc_16 2), .int (sc_16 3), .int (sc_16 4), .int (((sc_16 5)) + 1), .int (sc_16 6), .int (sc_16 7), .int (sc_16 8), .ref (ad 9), .int (sc_16 10), .ref (ad 11), .ref (ad 12), .ref (ad 13), .int (sc_16 14), .int (sc_16 15), .ref (ad 16), .ref (ad 17), .ref (ad 18), .ref (ad 19), .ref (ad 20), .int (sc_16 21), .ref (ad 22), .ref (ad 23), .int (sc_16 24), .int (sc_16 25), .int (sc_16 26), .int (sc_16 27), .int (sc_16 28)]))) := ⟨_, rfl⟩
      have hP : fh_P E.1 vwCl A h_19 H := by rw [eh_20]; exact hP
      obtain ⟨sc_21, es_22⟩ : ∃ z : Nat → Int32, z = upd sc_16 5 ((((sc_16 5)) + 1)) := ⟨_, rfl⟩
      have m_23 : MDs E h_19 md ad sc_21 ar_8 := by rw [es_22]; exact m_9.setS (by rw [eh_20]; rfl)
      have K_24 : KM h h_19 md ad := (K_15).trans (KM.upS eh_20)
      have km_25 : h_19 md = some (.inr (7, [.int (sc_21 0), .int (sc_21 1), .int (sc_21 2), .int (sc_21 3), .int (sc_21 4), .int (sc_21 5), .int (sc_21 6), .int (sc_21 7), .int (sc_21 8), .ref (ad 9), .int (sc_21 10), .ref (ad 11), .ref (ad 12), .ref (ad 13), .int (sc_21 14), .int (sc_21 15), .ref (ad 16), .ref (ad 17), .ref (ad 18), .ref (ad 19), .ref (ad 20), .int (sc_21 21), .ref (ad 22), .ref (ad 23), .int (sc_21 24), .int (sc_21 25), .int (sc_21 26), .int (sc_21 27), .int (sc_21 28)])) := m_23.1
      refine lv_iload_n hx hb d_MD_makeRoom_46 rfl (lv_at hl 0 rfl) ?_
      have hR2 : RM sc_21 ar_8 (evM S t9) := by
        have z : RM sc_16 ar_8 (setB S t9) := hR0.bs (by rw [es_17, hbs]; rfl) (fun j hj => by rw [es_17]; exact if_neg hj) b_14 (by have z := a_13; rw [hbs] at z; exact z) (fun c hc => a12 c (by rw [hbs]; exact List.mem_cons_of_mem _ hc))
        rw [es_22]; exact z.ev
      have e0 : sc_21 0 = sc 0 := by rw [es_22, es_17]; rfl
      refine lv_if_eq (tgt := 57) hx hb d_MD_makeRoom_47 (by decide) (fun c_26 => ?_) (fun c_26 => ?_)
      · skip
        exact fh_vret hx hb hr hlocks (Nat.le_of_ble_eq_true rfl) (Nat.le_of_ble_eq_true rfl) hP hS ⟨rfl, sc_21, ar_8, m_23, by rw [roomM_2 hl10 hbs, if_pos c_26]; exact hR2, e0, K_24⟩ d_MD_makeRoom_57
      · skip
        refine lv_aload_n hx hb d_MD_makeRoom_50 rfl (lv_at hl 3 rfl) ?_
        refine lv_iconst (v := 1) hx hb d_MD_makeRoom_51 (by decide) ?_
        refine lv_iload_n hx hb d_MD_makeRoom_52 rfl (lv_at hl 2 rfl) ?_
        refine lv_iload_n hx hb d_MD_makeRoom_53 rfl (lv_at hl 1 rfl) ?_
        have hI2 : Inv (evM S t9) t := by
          obtain ⟨i1, i2, i3, i4, i5, i6, i7, i8, i9, i10, i11, i12, i13⟩ := hI
          refine ⟨?_, i2, i3, i4, i5, i6, fun c hc => i7 c (by rw [hbs]; exact List.mem_cons_of_mem _ hc), ?_, i9, i10, i11, i12, i13⟩
          · show t9.length ≤ 10
            rw [hbs] at i1; exact Nat.le_of_succ_le i1
          · rw [hbs] at i8; exact (List.nodup_cons.mp i8).2
        refine fh_callV (C := R_MD) (y := y_MD_ask) (bytes := b_MD_ask) (maxL := 6) (ret := none) (index := 65) (As := [.int 1, .int (c9.1), .int (c9.2.1)]) (rest := []) ⟨hx, hb, hml, hown, hG⟩ (c_MD_ask l E h_19 md ad sc_21 ar_8 m_23 (evM S t9) t hR2 hI2 N hN hN2 hq 1 c9.1 c9.2.1 (fun z => absurd rfl z)) (cwV 3 hG (gV gm789 gm791 gs_MD_ask gm8 gm792) rfl rfl rfl ⟨rfl, hdy_MD_ask⟩ ⟨Nat.le_of_ble_eq_true rfl, Nat.le_of_ble_eq_true rfl⟩) C_MD.1 km_25 hK hZ hP hS hA rfl hl.1 rfl (Nat.le_of_ble_eq_true rfl) d_MD_makeRoom_54 ⟨Nat.le_of_ble_eq_true rfl, Nat.le_of_ble_eq_true rfl⟩ (fun r h_27 H locs hq9 hP hS => ?_)
        obtain ⟨rfl, sc_28, ar_29, m_30, R_31, c_33, K_32⟩ := hq9
        have K_36 : KM h h_27 md ad := (K_24).trans K_32
        refine W.eq (g2 := F0 m 57 ls []) rfl ?_
        exact fh_vret hx hb hr hlocks (Nat.le_of_ble_eq_true rfl) (Nat.le_of_ble_eq_true rfl) hP hS ⟨rfl, sc_28, ar_29, m_30, by rw [roomM_2 hl10 hbs, if_neg c_26]; exact R_31, c_33.trans e0, K_36⟩ d_MD_makeRoom_57
  · skip
    exact fh_vret hx hb hr hlocks (Nat.le_of_ble_eq_true rfl) (Nat.le_of_ble_eq_true rfl) hP hS ⟨rfl, sc, ar, hM, by rw [roomM_1 ((nI_ltI (a := S.bs.length) (b := 10) (by omega) (by decide)).mp (Int32.not_le.mp c_5))]; exact hR0, rfl, KM.rfl⟩ d_MD_makeRoom_9

