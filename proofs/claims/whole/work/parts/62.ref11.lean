/-! THE REFERENCE: its buffers close up; one is put last. -/
section FZ
variable {p : Program} {l : Launch} {e : Env} {R : Room} {s : State} {m : MethodId} {args : Array Value} {below : List Frame} {meth : Method} {c : Code} {H : Heap} {locs : List Loc} {cells slots : Nat} {Q : State → Prop}
variable {cc : ByteArray} {pc : Nat} {ls : Array Slot} {rest : List Value} {D : va_G} {cl : List vw_C} {A : Nat → Prop} {a : Nat} {tys : List (ClassId × FieldType)} {h : fh_H} {H0 : Heap}
theorem fh_zasK (hexec : p.tables.exec = Jvm.exec) (hb : c.code = cc) (hK : va_K D cl tys s) (hP : fh_P D cl A h H) (hS : va_S A H0 H locs) (t0 : Nat) {cA : ClassId} {n k : Nat} {f : Nat → Int32} (ha : h a = some (.inl (cA, n, .inl f))) (ht : tys[t0]? = some (cA, .boolean)) {x : Int32} (hk : k < n) (hn : n < 2 ^ 31) (hv : vp_nar .boolean x = x) (hdg : decode cc pc = .ok (.bastore, 1))
    (kk : ∀ (H1 : Heap) (locs1 : List Loc), fh_P D cl A (va_up h a (some (.inl (cA, n, .inl (upd f k x))))) H1 → va_S A H0 H1 locs1 → W p l e R s m args below meth c H1 locs1 cells slots Q (F0 m (pc + 1) ls rest)) : W p l e R s m args below meth c H locs cells slots Q (F0 m pc ls (.int x :: .int (nI k) :: .ref a :: rest)) := by
  obtain ⟨w, h1, h2, h3⟩ := hP
  obtain ⟨q0, hq⟩ := (h3 a _).mp ha
  refine va_zast hexec hb hK h1 h2 hS q0 t0 hq ht (vp_in_nI hk hn) hdg ?_
  rw [nI_clamp (by omega), hv]
  exact fun H1 locs1 g1 g2 g3 => kk H1 locs1 ⟨_, g1, g2, h3.set h2 hq⟩ g3
end FZ
theorem upd_eq (f : Nat → Int32) (k : Nat) (v : Int32) : upd f k v k = v := if_pos rfl
theorem upd_ne {f : Nat → Int32} {k j : Nat} {v : Int32} (h : j ≠ k) : upd f k v j = f j := if_neg h
theorem nar01 {x : Int32} (h : x = 0 ∨ x = 1) : vp_nar .boolean x = x := by
  rcases h with rfl | rfl <;> rfl
theorem nI_dec {n : Nat} (h : 0 < n) : nI n - 1 = nI (n - 1) := by
  obtain ⟨k, rfl⟩ : ∃ k, n = k + 1 := ⟨n - 1, by omega⟩
  exact nI_pred k
set_option maxHeartbeats 800000 in
set_option maxRecDepth 100000 in
theorem c_MD_closeUp (l : Launch) (E : fh_E) (h : fh_H) (md : Nat) (ad : Nat → Nat) (sc : Nat → Int32) (ar : Nat → Nat → Int32) (hM : MDs E h md ad sc ar) (bs : List mC) (hB : bL ar bs) (hZb : bZ bs) (hn : sc 10 = nI bs.length) (h11 : bs.length ≤ 11) (j : Nat) (hj : j < bs.length) : fh_Met l y_MD_closeUp w_MD_closeUp ({ frames := 0, cells := 0, slots := 0, locals := 0 }) E [.ref md, .int (nI j)] h (fun r h1 => r = none ∧ ∃ ar1, MDs E h1 md ad (upd sc 10 (nI (bs.length - 1))) ar1 ∧ bL ar1 (bs.eraseIdx j) ∧ (∀ k, k < 11 ∨ 13 < k → ar1 k = ar k) ∧ KM h h1 md ad) 0 0 := by
  refine fh_ofW (cc := b_MD_closeUp) (maxL := 3) (ret := none) (by decide) rfl (Nat.le_of_ble_eq_true rfl) ?_
  intro p e s m below meth c A ls hx hb hr hml hown hts hlocks hname hnoh hadm hA hK hZ hP hS hl
  have hG : ∀ w ∈ G, w.before _ s = true := fun w hw => hts w (List.mem_cons_of_mem _ hw)
  have hown : s.vm.findClass R_MD = some m.cls := hown
  have hl : lv_has ls 3 [(0, .ref md), (1, .int (nI j))] := hl
  have km_1 : h md = some (.inr (7, [.int (sc 0), .int (sc 1), .int (sc 2), .int (sc 3), .int (sc 4), .int (sc 5), .int (sc 6), .int (sc 7), .int (sc 8), .ref (ad 9), .int (sc 10), .ref (ad 11), .ref (ad 12), .ref (ad 13), .int (sc 14), .int (sc 15), .ref (ad 16), .ref (ad 17), .ref (ad 18), .ref (ad 19), .ref (ad 20), .int (sc 21), .ref (ad 22), .ref (ad 23), .int (sc 24), .int (sc 25), .int (sc 26), .int (sc 27), .int (sc 28)])) := hM.1
  refine lv_aload_n hx hb d_MD_closeUp_0 rfl (lv_at hl 0 rfl) ?_
  refine lv_dup hx hb d_MD_closeUp_1 rfl ?_
  refine fh_get hx hb hG C_MD iG_MD hown hK hP km_1 10 (by decide) gm683 rfl d_MD_closeUp_2 ?_
  rw [hn]
  refine lv_iconst (v := 1) hx hb d_MD_closeUp_5 (by decide) ?_
  refine lv_isub hx hb d_MD_closeUp_6 ?_
  refine W.eq (g2 := F0 m 7 ls [.int (nI (bs.length - 1)), .ref md]) (by rw [nI_dec (by omega)]) ?_
  refine fh_put hx hb hG C_MD iG_MD hown hK hP hS km_1 10 (by decide) gm683 rfl (v := .int (nI (bs.length - 1))) rfl rfl (Nat.le_of_ble_eq_true rfl) d_MD_closeUp_7 (fun H locs hP hS => ?_)
  obtain ⟨h_2, eh_3⟩ : ∃ z : fh_H, z = va_up h md (some (.inr (7, [.int (sc 0), .int (sc 1), .int (sc 2), .int (sc 3), .int (sc 4), .int (sc 5), .int (sc 6), .int (sc 7), .int (sc 8), .ref (ad 9), .int (nI (bs.length - 1)), .ref (ad 11), .ref (ad 12), .ref (ad 13), .int (sc 14), .int (sc 15), .ref (ad 16), .ref (ad 17), .ref (ad 18), .ref (ad 19), .ref (ad 20), .int (sc 21), .ref (ad 22), .ref (ad 23), .int (sc 24), .int (sc 25), .int (sc 26), .int (sc 27), .int (sc 28)]))) := ⟨_, rfl⟩
  have hP : fh_P E.1 vwCl A h_2 H := by rw [eh_3]; exact hP
  obtain ⟨sc_4, es_5⟩ : ∃ z : Nat → Int32, z = upd sc 10 ((nI (bs.length - 1))) := ⟨_, rfl⟩
  have m_6 : MDs E h_2 md ad sc_4 ar := by rw [es_5]; exact hM.setS (by rw [eh_3]; rfl)
  have K_7 : KM h h_2 md ad := (KM.rfl).trans (KM.upS eh_3)
  have km_8 : h_2 md = some (.inr (7, [.int (sc_4 0), .int (sc_4 1), .int (sc_4 2), .int (sc_4 3), .int (sc_4 4), .int (sc_4 5), .int (sc_4 6), .int (sc_4 7), .int (sc_4 8), .ref (ad 9), .int (sc_4 10), .ref (ad 11), .ref (ad 12), .ref (ad 13), .int (sc_4 14), .int (sc_4 15), .ref (ad 16), .ref (ad 17), .ref (ad 18), .ref (ad 19), .ref (ad 20), .int (sc_4 21), .ref (ad 22), .ref (ad 23), .int (sc_4 24), .int (sc_4 25), .int (sc_4 26), .int (sc_4 27), .int (sc_4 28)])) := m_6.1
  refine lv_iload_n hx hb d_MD_closeUp_10 rfl (lv_at hl 1 rfl) ?_
  refine lv_istore_n (lv' := [(2, .int (nI j)), (0, .ref md), (1, .int (nI j))]) hx hb d_MD_closeUp_11 rfl hl (by decide) rfl (fun ls hl => ?_)
  have e10 : sc_4 10 = nI (bs.length - 1) := by rw [es_5]; rfl
  have loop : ∀ (f i : Nat) (ar' : Nat → Nat → Int32) (h' : fh_H) (H : Heap) (locs : List Loc) (ls : Array Slot), i + f + 1 = bs.length → j ≤ i → lv_has ls 3 [(2, .int (nI i)), (0, .ref md), (1, .int (nI j))] → fh_P E.1 vwCl A h' H → va_S A s.heap H locs → MDs E h' md ad sc_4 ar' → shS rB ar' bs j i → (∀ k, k < 11 ∨ 13 < k → ar' k = ar k) → KM h h' md ad → W p l e ({ frames := 0, cells := 0, slots := 0, locals := 0 }) s m ([.ref md, .int (nI j)] : List Value).toArray below meth c H locs 0 0 (MQ below (fh_Post E (fun r h1 => r = none ∧ ∃ ar1, MDs E h1 md ad (upd sc 10 (nI (bs.length - 1))) ar1 ∧ bL ar1 (bs.eraseIdx j) ∧ (∀ k, k < 11 ∨ 13 < k → ar1 k = ar k) ∧ KM h h1 md ad) A) ([.ref md, .int (nI j)] : List Value).toArray s 0 0 A) (F0 m 12 ls []) := by
    intro f
    induction f with
    | zero =>
      intro i ar' h' H locs ls hif hji hl hP hS hM' hs ho K'
      have km_9 : h' md = some (.inr (7, [.int (sc_4 0), .int (sc_4 1), .int (sc_4 2), .int (sc_4 3), .int (sc_4 4), .int (sc_4 5), .int (sc_4 6), .int (sc_4 7), .int (sc_4 8), .ref (ad 9), .int (sc_4 10), .ref (ad 11), .ref (ad 12), .ref (ad 13), .int (sc_4 14), .int (sc_4 15), .ref (ad 16), .ref (ad 17), .ref (ad 18), .ref (ad 19), .ref (ad 20), .int (sc_4 21), .ref (ad 22), .ref (ad 23), .int (sc_4 24), .int (sc_4 25), .int (sc_4 26), .int (sc_4 27), .int (sc_4 28)])) := hM'.1
      have ka_10 : h' (ad 11) = some (.inl (fh_cI E, 11, .inl (ar' 11))) := hM'.2.1 11 rfl
      have ka_11 : h' (ad 12) = some (.inl (fh_cI E, 11, .inl (ar' 12))) := hM'.2.1 12 rfl
      have ka_12 : h' (ad 13) = some (.inl (fh_cZ E, 11, .inl (ar' 13))) := hM'.2.1 13 rfl
      refine lv_iload_n hx hb d_MD_closeUp_12 rfl (lv_at hl 0 rfl) ?_
      refine lv_aload_n hx hb d_MD_closeUp_13 rfl (lv_at hl 1 rfl) ?_
      refine fh_get hx hb hG C_MD iG_MD hown hK hP km_9 10 (by decide) gm683 rfl d_MD_closeUp_14 ?_
      refine lv_icmp_ge (tgt := 68) hx hb d_MD_closeUp_17 (by decide) (fun c_13 => ?_) (fun c_13 => ?_)
      · skip
        exact fh_vret hx hb hr hlocks (Nat.le_of_ble_eq_true rfl) (Nat.le_of_ble_eq_true rfl) hP hS ⟨rfl, ar', by rw [← es_5]; exact hM', shS_e hs (by omega), ho, K'⟩ d_MD_closeUp_68
      · skip
        exact absurd (show sc_4 10 ≤ nI i by rw [e10]; exact nI_le (by omega) (by omega)) c_13
    | succ f ih =>
      intro i ar' h' H locs ls hif hji hl hP hS hM' hs ho K'
      have km_14 : h' md = some (.inr (7, [.int (sc_4 0), .int (sc_4 1), .int (sc_4 2), .int (sc_4 3), .int (sc_4 4), .int (sc_4 5), .int (sc_4 6), .int (sc_4 7), .int (sc_4 8), .ref (ad 9), .int (sc_4 10), .ref (ad 11), .ref (ad 12), .ref (ad 13), .int (sc_4 14), .int (sc_4 15), .ref (ad 16), .ref (ad 17), .ref (ad 18), .ref (ad 19), .ref (ad 20), .int (sc_4 21), .ref (ad 22), .ref (ad 23), .int (sc_4 24), .int (sc_4 25), .int (sc_4 26), .int (sc_4 27), .int (sc_4 28)])) := hM'.1
      have ka_15 : h' (ad 11) = some (.inl (fh_cI E, 11, .inl (ar' 11))) := hM'.2.1 11 rfl
      have ka_16 : h' (ad 12) = some (.inl (fh_cI E, 11, .inl (ar' 12))) := hM'.2.1 12 rfl
      have ka_17 : h' (ad 13) = some (.inl (fh_cZ E, 11, .inl (ar' 13))) := hM'.2.1 13 rfl
      refine lv_iload_n hx hb d_MD_closeUp_12 rfl (lv_at hl 0 rfl) ?_
      refine lv_aload_n hx hb d_MD_closeUp_13 rfl (lv_at hl 1 rfl) ?_
      refine fh_get hx hb hG C_MD iG_MD hown hK hP km_14 10 (by decide) gm683 rfl d_MD_closeUp_14 ?_
      refine lv_icmp_ge (tgt := 68) hx hb d_MD_closeUp_17 (by decide) (fun c_18 => ?_) (fun c_18 => ?_)
      · skip
        rw [e10] at c_18
        exact absurd c_18 (nI_ge (by omega) (by omega))
      · skip
        obtain ⟨c9, hc9⟩ := mp_get (xs := bs) (i := i + 1) (by omega)
        obtain ⟨g1, g2, g3⟩ := (hs (i + 1) c9 hc9).2.2 (by omega)
        refine lv_aload_n hx hb d_MD_closeUp_20 rfl (lv_at hl 1 rfl) ?_
        refine fh_get hx hb hG C_MD iG_MD hown hK hP km_14 11 (by decide) gm684 rfl d_MD_closeUp_21 ?_
        refine lv_iload_n hx hb d_MD_closeUp_24 rfl (lv_at hl 0 rfl) ?_
        refine lv_aload_n hx hb d_MD_closeUp_25 rfl (lv_at hl 1 rfl) ?_
        refine fh_get hx hb hG C_MD iG_MD hown hK hP km_14 11 (by decide) gm684 rfl d_MD_closeUp_26 ?_
        refine lv_iload_n hx hb d_MD_closeUp_29 rfl (lv_at hl 0 rfl) ?_
        refine lv_iconst (v := 1) hx hb d_MD_closeUp_30 (by decide) ?_
        refine lv_iadd hx hb d_MD_closeUp_31 ?_
        refine W.eq (g2 := F0 m 32 ls [.int (nI (i + 1)), .ref (ad 11), .int (nI i), .ref (ad 11)]) (by rw [nI_1]) ?_
        refine fh_ialK hx hb hK hP 0 ka_15 rfl (k := (i + 1)) (by omega) (by decide) d_MD_closeUp_32 ?_
        refine fh_iasK hx hb hK hP hS 0 ka_15 rfl (k := i) (by omega) (by decide) d_MD_closeUp_33 (fun H locs hP hS => ?_)
        obtain ⟨h_19, eh_20⟩ : ∃ z : fh_H, z = va_up h' (ad 11) (some (.inl (fh_cI E, 11, .inl (upd (ar' 11) i ((ar' 11 ((i + 1)))))))) := ⟨_, rfl⟩
        have hP : fh_P E.1 vwCl A h_19 H := by rw [eh_20]; exact hP
        obtain ⟨ar_21, ea_22⟩ : ∃ z : Nat → Nat → Int32, z = va_up ar' 11 (upd (ar' 11) i ((ar' 11 ((i + 1))))) := ⟨_, rfl⟩
        have m_23 : MDs E h_19 md ad sc_4 ar_21 := by rw [ea_22]; exact hM'.setA 11 rfl eh_20
        have K_24 : KM h h_19 md ad := (K').trans (KM.upA 11 rfl eh_20)
        have km_25 : h_19 md = some (.inr (7, [.int (sc_4 0), .int (sc_4 1), .int (sc_4 2), .int (sc_4 3), .int (sc_4 4), .int (sc_4 5), .int (sc_4 6), .int (sc_4 7), .int (sc_4 8), .ref (ad 9), .int (sc_4 10), .ref (ad 11), .ref (ad 12), .ref (ad 13), .int (sc_4 14), .int (sc_4 15), .ref (ad 16), .ref (ad 17), .ref (ad 18), .ref (ad 19), .ref (ad 20), .int (sc_4 21), .ref (ad 22), .ref (ad 23), .int (sc_4 24), .int (sc_4 25), .int (sc_4 26), .int (sc_4 27), .int (sc_4 28)])) := m_23.1
        have ka_26 : h_19 (ad 11) = some (.inl (fh_cI E, 11, .inl (ar_21 11))) := m_23.2.1 11 rfl
        have ka_27 : h_19 (ad 12) = some (.inl (fh_cI E, 11, .inl (ar_21 12))) := m_23.2.1 12 rfl
        have ka_28 : h_19 (ad 13) = some (.inl (fh_cZ E, 11, .inl (ar_21 13))) := m_23.2.1 13 rfl
        refine lv_aload_n hx hb d_MD_closeUp_34 rfl (lv_at hl 1 rfl) ?_
        refine fh_get hx hb hG C_MD iG_MD hown hK hP km_25 12 (by decide) gm685 rfl d_MD_closeUp_35 ?_
        refine lv_iload_n hx hb d_MD_closeUp_38 rfl (lv_at hl 0 rfl) ?_
        refine lv_aload_n hx hb d_MD_closeUp_39 rfl (lv_at hl 1 rfl) ?_
        refine fh_get hx hb hG C_MD iG_MD hown hK hP km_25 12 (by decide) gm685 rfl d_MD_closeUp_40 ?_
        refine lv_iload_n hx hb d_MD_closeUp_43 rfl (lv_at hl 0 rfl) ?_
        refine lv_iconst (v := 1) hx hb d_MD_closeUp_44 (by decide) ?_
        refine lv_iadd hx hb d_MD_closeUp_45 ?_
        refine W.eq (g2 := F0 m 46 ls [.int (nI (i + 1)), .ref (ad 12), .int (nI i), .ref (ad 12)]) (by rw [nI_1]) ?_
        refine fh_ialK hx hb hK hP 0 ka_27 rfl (k := (i + 1)) (by omega) (by decide) d_MD_closeUp_46 ?_
        refine fh_iasK hx hb hK hP hS 0 ka_27 rfl (k := i) (by omega) (by decide) d_MD_closeUp_47 (fun H locs hP hS => ?_)
        obtain ⟨h_29, eh_30⟩ : ∃ z : fh_H, z = va_up h_19 (ad 12) (some (.inl (fh_cI E, 11, .inl (upd (ar_21 12) i ((ar_21 12 ((i + 1)))))))) := ⟨_, rfl⟩
        have hP : fh_P E.1 vwCl A h_29 H := by rw [eh_30]; exact hP
        obtain ⟨ar_31, ea_32⟩ : ∃ z : Nat → Nat → Int32, z = va_up ar_21 12 (upd (ar_21 12) i ((ar_21 12 ((i + 1))))) := ⟨_, rfl⟩
        have m_33 : MDs E h_29 md ad sc_4 ar_31 := by rw [ea_32]; exact m_23.setA 12 rfl eh_30
        have K_34 : KM h h_29 md ad := (K_24).trans (KM.upA 12 rfl eh_30)
        have km_35 : h_29 md = some (.inr (7, [.int (sc_4 0), .int (sc_4 1), .int (sc_4 2), .int (sc_4 3), .int (sc_4 4), .int (sc_4 5), .int (sc_4 6), .int (sc_4 7), .int (sc_4 8), .ref (ad 9), .int (sc_4 10), .ref (ad 11), .ref (ad 12), .ref (ad 13), .int (sc_4 14), .int (sc_4 15), .ref (ad 16), .ref (ad 17), .ref (ad 18), .ref (ad 19), .ref (ad 20), .int (sc_4 21), .ref (ad 22), .ref (ad 23), .int (sc_4 24), .int (sc_4 25), .int (sc_4 26), .int (sc_4 27), .int (sc_4 28)])) := m_33.1
        have ka_36 : h_29 (ad 11) = some (.inl (fh_cI E, 11, .inl (ar_31 11))) := m_33.2.1 11 rfl
        have ka_37 : h_29 (ad 12) = some (.inl (fh_cI E, 11, .inl (ar_31 12))) := m_33.2.1 12 rfl
        have ka_38 : h_29 (ad 13) = some (.inl (fh_cZ E, 11, .inl (ar_31 13))) := m_33.2.1 13 rfl
        refine lv_aload_n hx hb d_MD_closeUp_48 rfl (lv_at hl 1 rfl) ?_
        refine fh_get hx hb hG C_MD iG_MD hown hK hP km_35 13 (by decide) gm686 rfl d_MD_closeUp_49 ?_
        refine lv_iload_n hx hb d_MD_closeUp_52 rfl (lv_at hl 0 rfl) ?_
        refine lv_aload_n hx hb d_MD_closeUp_53 rfl (lv_at hl 1 rfl) ?_
        refine fh_get hx hb hG C_MD iG_MD hown hK hP km_35 13 (by decide) gm686 rfl d_MD_closeUp_54 ?_
        refine lv_iload_n hx hb d_MD_closeUp_57 rfl (lv_at hl 0 rfl) ?_
        refine lv_iconst (v := 1) hx hb d_MD_closeUp_58 (by decide) ?_
        refine lv_iadd hx hb d_MD_closeUp_59 ?_
        refine W.eq (g2 := F0 m 60 ls [.int (nI (i + 1)), .ref (ad 13), .int (nI i), .ref (ad 13)]) (by rw [nI_1]) ?_
        refine fh_zalK hx hb hK hP 3 ka_38 rfl (k := (i + 1)) (by omega) (by decide) d_MD_closeUp_60 ?_
        have hnar : ar_31 13 (i + 1) = 0 ∨ ar_31 13 (i + 1) = 1 := by
          have : ar_31 13 (i + 1) = c9.2.2 := by rw [ea_32, ea_22]; exact g3
          rw [this]; exact hZb c9 (List.mem_of_getElem? hc9)
        refine fh_zasK hx hb hK hP hS 3 ka_38 rfl (k := i) (by omega) (by decide) (nar01 hnar) d_MD_closeUp_61 (fun H locs hP hS => ?_)
        obtain ⟨h_39, eh_40⟩ : ∃ z : fh_H, z = va_up h_29 (ad 13) (some (.inl (fh_cZ E, 11, .inl (upd (ar_31 13) i ((ar_31 13 ((i + 1)))))))) := ⟨_, rfl⟩
        have hP : fh_P E.1 vwCl A h_39 H := by rw [eh_40]; exact hP
        obtain ⟨ar_41, ea_42⟩ : ∃ z : Nat → Nat → Int32, z = va_up ar_31 13 (upd (ar_31 13) i ((ar_31 13 ((i + 1))))) := ⟨_, rfl⟩
        have m_43 : MDs E h_39 md ad sc_4 ar_41 := by rw [ea_42]; exact m_33.setA 13 rfl eh_40
        have K_44 : KM h h_39 md ad := (K_34).trans (KM.upA 13 rfl eh_40)
        have km_45 : h_39 md = some (.inr (7, [.int (sc_4 0), .int (sc_4 1), .int (sc_4 2), .int (sc_4 3), .int (sc_4 4), .int (sc_4 5), .int (sc_4 6), .int (sc_4 7), .int (sc_4 8), .ref (ad 9), .int (sc_4 10), .ref (ad 11), .ref (ad 12), .ref (ad 13), .int (sc_4 14), .int (sc_4 15), .ref (ad 16), .ref (ad 17), .ref (ad 18), .ref (ad 19), .ref (ad 20), .int (sc_4 21), .ref (ad 22), .ref (ad 23), .int (sc_4 24), .int (sc_4 25), .int (sc_4 26), .int (sc_4 27), .int (sc_4 28)])) := m_43.1
        have ka_46 : h_39 (ad 11) = some (.inl (fh_cI E, 11, .inl (ar_41 11))) := m_43.2.1 11 rfl
        have ka_47 : h_39 (ad 12) = some (.inl (fh_cI E, 11, .inl (ar_41 12))) := m_43.2.1 12 rfl
        have ka_48 : h_39 (ad 13) = some (.inl (fh_cZ E, 11, .inl (ar_41 13))) := m_43.2.1 13 rfl
        refine lv_iinc (v := ((nI i)) + 1) (lv' := [(2, .int (((nI i)) + 1)), (0, .ref md), (1, .int (nI j))]) hx hb d_MD_closeUp_62 hl (k := 0) rfl rfl (by decide) rfl (fun ls hl => ?_)
        refine lv_goto (tgt := 12) hx hb d_MD_closeUp_65 (by decide) ?_
        have eB : ar_41 = bfA ar' (i + 1) i := by rw [ea_42, ea_32, ea_22]; rfl
        exact ih (i + 1) ar_41 h_39 H locs ls (by omega) (by omega) (by rw [nI_succ]; exact hl) hP hS m_43 (by rw [eB]; exact shS_s hs hji (fun r hr => bfA_at hr) (fun k r hk hr => bfA_ne hk hr)) (fun k hk => by rw [eB, bfA_o hk]; exact ho k hk) K_44
  exact loop (bs.length - 1 - j) j _ _ _ _ ls (by omega) (Nat.le_refl _) (by exact hl) hP hS m_6 (shS_0 (fun k r hk => hB k r hk)) (fun k _ => rfl) K_7

set_option maxHeartbeats 800000 in
set_option maxRecDepth 100000 in
theorem c_MD_putLast (l : Launch) (E : fh_E) (h : fh_H) (md : Nat) (ad : Nat → Nat) (sc : Nat → Int32) (ar : Nat → Nat → Int32) (hM : MDs E h md ad sc ar) (bs : List mC) (hn : sc 10 = nI bs.length) (h10 : bs.length ≤ 10) (b v d : Int32) (hd : d = 0 ∨ d = 1) : fh_Met l y_MD_putLast w_MD_putLast ({ frames := 0, cells := 0, slots := 0, locals := 0 }) E [.ref md, .int b, .int v, .int d] h (fun r h1 => r = none ∧ MDs E h1 md ad (upd sc 10 (nI (bs.length + 1))) (lyB ar bs.length b v d) ∧ KM h h1 md ad) 0 0 := by
  refine fh_ofW (cc := b_MD_putLast) (maxL := 4) (ret := none) (by decide) rfl (Nat.le_of_ble_eq_true rfl) ?_
  intro p e s m below meth c A ls hx hb hr hml hown hts hlocks hname hnoh hadm hA hK hZ hP hS hl
  have hG : ∀ w ∈ G, w.before _ s = true := fun w hw => hts w (List.mem_cons_of_mem _ hw)
  have hown : s.vm.findClass R_MD = some m.cls := hown
  have hl : lv_has ls 4 [(0, .ref md), (1, .int b), (2, .int v), (3, .int d)] := hl
  have km_1 : h md = some (.inr (7, [.int (sc 0), .int (sc 1), .int (sc 2), .int (sc 3), .int (sc 4), .int (sc 5), .int (sc 6), .int (sc 7), .int (sc 8), .ref (ad 9), .int (sc 10), .ref (ad 11), .ref (ad 12), .ref (ad 13), .int (sc 14), .int (sc 15), .ref (ad 16), .ref (ad 17), .ref (ad 18), .ref (ad 19), .ref (ad 20), .int (sc 21), .ref (ad 22), .ref (ad 23), .int (sc 24), .int (sc 25), .int (sc 26), .int (sc 27), .int (sc 28)])) := hM.1
  have ka_2 : h (ad 11) = some (.inl (fh_cI E, 11, .inl (ar 11))) := hM.2.1 11 rfl
  have ka_3 : h (ad 12) = some (.inl (fh_cI E, 11, .inl (ar 12))) := hM.2.1 12 rfl
  have ka_4 : h (ad 13) = some (.inl (fh_cZ E, 11, .inl (ar 13))) := hM.2.1 13 rfl
  refine lv_aload_n hx hb d_MD_putLast_0 rfl (lv_at hl 0 rfl) ?_
  refine fh_get hx hb hG C_MD iG_MD hown hK hP km_1 11 (by decide) gm684 rfl d_MD_putLast_1 ?_
  refine lv_aload_n hx hb d_MD_putLast_4 rfl (lv_at hl 0 rfl) ?_
  refine fh_get hx hb hG C_MD iG_MD hown hK hP km_1 10 (by decide) gm683 rfl d_MD_putLast_5 ?_
  rw [hn]
  refine lv_iload_n hx hb d_MD_putLast_8 rfl (lv_at hl 1 rfl) ?_
  refine fh_iasK hx hb hK hP hS 0 ka_2 rfl (k := bs.length) (by omega) (by decide) d_MD_putLast_9 (fun H locs hP hS => ?_)
  obtain ⟨h_5, eh_6⟩ : ∃ z : fh_H, z = va_up h (ad 11) (some (.inl (fh_cI E, 11, .inl (upd (ar 11) bs.length (b))))) := ⟨_, rfl⟩
  have hP : fh_P E.1 vwCl A h_5 H := by rw [eh_6]; exact hP
  obtain ⟨ar_7, ea_8⟩ : ∃ z : Nat → Nat → Int32, z = va_up ar 11 (upd (ar 11) bs.length (b)) := ⟨_, rfl⟩
  have m_9 : MDs E h_5 md ad sc ar_7 := by rw [ea_8]; exact hM.setA 11 rfl eh_6
  have K_10 : KM h h_5 md ad := (KM.rfl).trans (KM.upA 11 rfl eh_6)
  have km_11 : h_5 md = some (.inr (7, [.int (sc 0), .int (sc 1), .int (sc 2), .int (sc 3), .int (sc 4), .int (sc 5), .int (sc 6), .int (sc 7), .int (sc 8), .ref (ad 9), .int (sc 10), .ref (ad 11), .ref (ad 12), .ref (ad 13), .int (sc 14), .int (sc 15), .ref (ad 16), .ref (ad 17), .ref (ad 18), .ref (ad 19), .ref (ad 20), .int (sc 21), .ref (ad 22), .ref (ad 23), .int (sc 24), .int (sc 25), .int (sc 26), .int (sc 27), .int (sc 28)])) := m_9.1
  have ka_12 : h_5 (ad 11) = some (.inl (fh_cI E, 11, .inl (ar_7 11))) := m_9.2.1 11 rfl
  have ka_13 : h_5 (ad 12) = some (.inl (fh_cI E, 11, .inl (ar_7 12))) := m_9.2.1 12 rfl
  have ka_14 : h_5 (ad 13) = some (.inl (fh_cZ E, 11, .inl (ar_7 13))) := m_9.2.1 13 rfl
  refine lv_aload_n hx hb d_MD_putLast_10 rfl (lv_at hl 0 rfl) ?_
  refine fh_get hx hb hG C_MD iG_MD hown hK hP km_11 12 (by decide) gm685 rfl d_MD_putLast_11 ?_
  refine lv_aload_n hx hb d_MD_putLast_14 rfl (lv_at hl 0 rfl) ?_
  refine fh_get hx hb hG C_MD iG_MD hown hK hP km_11 10 (by decide) gm683 rfl d_MD_putLast_15 ?_
  rw [hn]
  refine lv_iload_n hx hb d_MD_putLast_18 rfl (lv_at hl 2 rfl) ?_
  refine fh_iasK hx hb hK hP hS 0 ka_13 rfl (k := bs.length) (by omega) (by decide) d_MD_putLast_19 (fun H locs hP hS => ?_)
  obtain ⟨h_15, eh_16⟩ : ∃ z : fh_H, z = va_up h_5 (ad 12) (some (.inl (fh_cI E, 11, .inl (upd (ar_7 12) bs.length (v))))) := ⟨_, rfl⟩
  have hP : fh_P E.1 vwCl A h_15 H := by rw [eh_16]; exact hP
  obtain ⟨ar_17, ea_18⟩ : ∃ z : Nat → Nat → Int32, z = va_up ar_7 12 (upd (ar_7 12) bs.length (v)) := ⟨_, rfl⟩
  have m_19 : MDs E h_15 md ad sc ar_17 := by rw [ea_18]; exact m_9.setA 12 rfl eh_16
  have K_20 : KM h h_15 md ad := (K_10).trans (KM.upA 12 rfl eh_16)
  have km_21 : h_15 md = some (.inr (7, [.int (sc 0), .int (sc 1), .int (sc 2), .int (sc 3), .int (sc 4), .int (sc 5), .int (sc 6), .int (sc 7), .int (sc 8), .ref (ad 9), .int (sc 10), .ref (ad 11), .ref (ad 12), .ref (ad 13), .int (sc 14), .int (sc 15), .ref (ad 16), .ref (ad 17), .ref (ad 18), .ref (ad 19), .ref (ad 20), .int (sc 21), .ref (ad 22), .ref (ad 23), .int (sc 24), .int (sc 25), .int (sc 26), .int (sc 27), .int (sc 28)])) := m_19.1
  have ka_22 : h_15 (ad 11) = some (.inl (fh_cI E, 11, .inl (ar_17 11))) := m_19.2.1 11 rfl
  have ka_23 : h_15 (ad 12) = some (.inl (fh_cI E, 11, .inl (ar_17 12))) := m_19.2.1 12 rfl
  have ka_24 : h_15 (ad 13) = some (.inl (fh_cZ E, 11, .inl (ar_17 13))) := m_19.2.1 13 rfl
  refine lv_aload_n hx hb d_MD_putLast_20 rfl (lv_at hl 0 rfl) ?_
  refine fh_get hx hb hG C_MD iG_MD hown hK hP km_21 13 (by decide) gm686 rfl d_MD_putLast_21 ?_
  refine lv_aload_n hx hb d_MD_putLast_24 rfl (lv_at hl 0 rfl) ?_
  refine fh_get hx hb hG C_MD iG_MD hown hK hP km_21 10 (by decide) gm683 rfl d_MD_putLast_25 ?_
  rw [hn]
  refine lv_iload_n hx hb d_MD_putLast_28 rfl (lv_at hl 3 rfl) ?_
  refine fh_zasK hx hb hK hP hS 3 ka_24 rfl (k := bs.length) (by omega) (by decide) (nar01 hd) d_MD_putLast_29 (fun H locs hP hS => ?_)
  obtain ⟨h_25, eh_26⟩ : ∃ z : fh_H, z = va_up h_15 (ad 13) (some (.inl (fh_cZ E, 11, .inl (upd (ar_17 13) bs.length (d))))) := ⟨_, rfl⟩
  have hP : fh_P E.1 vwCl A h_25 H := by rw [eh_26]; exact hP
  obtain ⟨ar_27, ea_28⟩ : ∃ z : Nat → Nat → Int32, z = va_up ar_17 13 (upd (ar_17 13) bs.length (d)) := ⟨_, rfl⟩
  have m_29 : MDs E h_25 md ad sc ar_27 := by rw [ea_28]; exact m_19.setA 13 rfl eh_26
  have K_30 : KM h h_25 md ad := (K_20).trans (KM.upA 13 rfl eh_26)
  have km_31 : h_25 md = some (.inr (7, [.int (sc 0), .int (sc 1), .int (sc 2), .int (sc 3), .int (sc 4), .int (sc 5), .int (sc 6), .int (sc 7), .int (sc 8), .ref (ad 9), .int (sc 10), .ref (ad 11), .ref (ad 12), .ref (ad 13), .int (sc 14), .int (sc 15), .ref (ad 16), .ref (ad 17), .ref (ad 18), .ref (ad 19), .ref (ad 20), .int (sc 21), .ref (ad 22), .ref (ad 23), .int (sc 24), .int (sc 25), .int (sc 26), .int (sc 27), .int (sc 28)])) := m_29.1
  have ka_32 : h_25 (ad 11) = some (.inl (fh_cI E, 11, .inl (ar_27 11))) := m_29.2.1 11 rfl
  have ka_33 : h_25 (ad 12) = some (.inl (fh_cI E, 11, .inl (ar_27 12))) := m_29.2.1 12 rfl
  have ka_34 : h_25 (ad 13) = some (.inl (fh_cZ E, 11, .inl (ar_27 13))) := m_29.2.1 13 rfl
  refine lv_aload_n hx hb d_MD_putLast_30 rfl (lv_at hl 0 rfl) ?_
  refine lv_dup hx hb d_MD_putLast_31 rfl ?_
  refine fh_get hx hb hG C_MD iG_MD hown hK hP km_31 10 (by decide) gm683 rfl d_MD_putLast_32 ?_
  rw [hn]
  refine lv_iconst (v := 1) hx hb d_MD_putLast_35 (by decide) ?_
  refine lv_iadd hx hb d_MD_putLast_36 ?_
  refine W.eq (g2 := F0 m 37 ls [.int (nI (bs.length + 1)), .ref md]) (by rw [nI_1]) ?_
  refine fh_put hx hb hG C_MD iG_MD hown hK hP hS km_31 10 (by decide) gm683 rfl (v := .int (nI (bs.length + 1))) rfl rfl (Nat.le_of_ble_eq_true rfl) d_MD_putLast_37 (fun H locs hP hS => ?_)
  obtain ⟨h_35, eh_36⟩ : ∃ z : fh_H, z = va_up h_25 md (some (.inr (7, [.int (sc 0), .int (sc 1), .int (sc 2), .int (sc 3), .int (sc 4), .int (sc 5), .int (sc 6), .int (sc 7), .int (sc 8), .ref (ad 9), .int (nI (bs.length + 1)), .ref (ad 11), .ref (ad 12), .ref (ad 13), .int (sc 14), .int (sc 15), .ref (ad 16), .ref (ad 17), .ref (ad 18), .ref (ad 19), .ref (ad 20), .int (sc 21), .ref (ad 22), .ref (ad 23), .int (sc 24), .int (sc 25), .int (sc 26), .int (sc 27), .int (sc 28)]))) := ⟨_, rfl⟩
  have hP : fh_P E.1 vwCl A h_35 H := by rw [eh_36]; exact hP
  obtain ⟨sc_37, es_38⟩ : ∃ z : Nat → Int32, z = upd sc 10 ((nI (bs.length + 1))) := ⟨_, rfl⟩
  have m_39 : MDs E h_35 md ad sc_37 ar_27 := by rw [es_38]; exact m_29.setS (by rw [eh_36]; rfl)
  have K_40 : KM h h_35 md ad := (K_30).trans (KM.upS eh_36)
  have km_41 : h_35 md = some (.inr (7, [.int (sc_37 0), .int (sc_37 1), .int (sc_37 2), .int (sc_37 3), .int (sc_37 4), .int (sc_37 5), .int (sc_37 6), .int (sc_37 7), .int (sc_37 8), .ref (ad 9), .int (sc_37 10), .ref (ad 11), .ref (ad 12), .ref (ad 13), .int (sc_37 14), .int (sc_37 15), .ref (ad 16), .ref (ad 17), .ref (ad 18), .ref (ad 19), .ref (ad 20), .int (sc_37 21), .ref (ad 22), .ref (ad 23), .int (sc_37 24), .int (sc_37 25), .int (sc_37 26), .int (sc_37 27), .int (sc_37 28)])) := m_39.1
  have ka_42 : h_35 (ad 11) = some (.inl (fh_cI E, 11, .inl (ar_27 11))) := m_39.2.1 11 rfl
  have ka_43 : h_35 (ad 12) = some (.inl (fh_cI E, 11, .inl (ar_27 12))) := m_39.2.1 12 rfl
  have ka_44 : h_35 (ad 13) = some (.inl (fh_cZ E, 11, .inl (ar_27 13))) := m_39.2.1 13 rfl
  exact fh_vret hx hb hr hlocks (Nat.le_of_ble_eq_true rfl) (Nat.le_of_ble_eq_true rfl) hP hS ⟨rfl, by rw [← es_38, show lyB ar bs.length b v d = ar_27 by rw [ea_28, ea_18, ea_8]; rfl]; exact m_39, K_40⟩ d_MD_putLast_40

