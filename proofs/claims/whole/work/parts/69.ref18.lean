/-! THE REFERENCE: what it tells. -/
theorem lnV_s {q : List mQ} {b v : Int32} {k : Nat} {r : mQ} (h : q[k]? = some r) : lnV q b v (k + 1) = if r.2.1 = 1 ∧ r.2.2.1 = b then r.2.2.2.2 else lnV q b v k := by
  simp only [lnV]; rw [h]
theorem lqN_s {q : List mQ} {n v : Int32} {k : Nat} {r : mQ} (h : q[k]? = some r) : lqN q n v (k + 1) = if r.1 = n then nI k else lqN q n v k := by
  simp only [lqN]; rw [h]
theorem rqM_out {r : mQ} {w : Int32} (h : w.toInt < 0 ∨ (4 : Int) ≤ w.toInt) : rqM r w = -1 := by
  have q : ∀ k, k < 4 → ¬ w = nI k := fun k hk => out_ne (n := 4) h hk (by decide)
  unfold rqM
  rw [if_neg (show ¬ w = 0 from q 0 (by decide)), if_neg (show ¬ w = 1 from q 1 (by decide)), if_neg (show ¬ w = 2 from q 2 (by decide)), if_neg (show ¬ w = 3 from q 3 (by decide))]
theorem tdM_out {S : mS} {w : Int32} (h : w.toInt < 0 ∨ (12 : Int) ≤ w.toInt) : tdM S w = -1 := by
  have q : ∀ k, k < 12 → ¬ w = nI k := fun k hk => out_ne (n := 12) h hk (by decide)
  unfold tdM
  rw [if_neg (show ¬ w = 0 from q 0 (by decide)), if_neg (show ¬ w = 1 from q 1 (by decide)), if_neg (show ¬ w = 2 from q 2 (by decide)), if_neg (show ¬ w = 3 from q 3 (by decide)), if_neg (show ¬ w = 4 from q 4 (by decide)), if_neg (show ¬ w = 5 from q 5 (by decide)), if_neg (show ¬ w = 6 from q 6 (by decide)), if_neg (show ¬ w = 7 from q 7 (by decide)), if_neg (show ¬ w = 8 from q 8 (by decide)), if_neg (show ¬ w = 9 from q 9 (by decide)), if_neg (show ¬ w = 10 from q 10 (by decide)), if_neg (show ¬ w = 11 from q 11 (by decide))]
theorem atI_n {α : Type} {xs : List α} {j : Nat} (h : j < 2 ^ 31) : atI xs (nI j) = xs[j]? := by
  unfold atI; rw [if_neg (nI_pos h), nI_clamp h]
set_option maxHeartbeats 800000 in
set_option maxRecDepth 100000 in
theorem c_MD_newestOf (l : Launch) (E : fh_E) (h : fh_H) (md : Nat) (ad : Nat → Nat) (sc : Nat → Int32) (ar : Nat → Nat → Int32) (hM : MDs E h md ad sc ar) (S : mS) (t : Nat) (hR : RM sc ar S) (hI : Inv S t) (b : Nat) (hb256 : b < 256) : fh_Met l y_MD_newestOf w_MD_newestOf ({ frames := 1, cells := 0, slots := 0, locals := 23 }) E [.ref md, .int (nI b)] h (fun r h1 => r = some (.int (newM S (nI b))) ∧ h1 = h) 0 0 := by
  refine fh_ofW (cc := b_MD_newestOf) (maxL := 4) (ret := (some .int)) (by decide) rfl (Nat.le_of_ble_eq_true rfl) ?_
  intro p e s m below meth c A ls hx hb hr hml hown hts hlocks hname hnoh hadm hA hK hZ hP hS hl
  have hG : ∀ w ∈ G, w.before _ s = true := fun w hw => hts w (List.mem_cons_of_mem _ hw)
  have hown : s.vm.findClass R_MD = some m.cls := hown
  have hl : lv_has ls 4 [(0, .ref md), (1, .int (nI b))] := hl
  have hR0 := hR
  obtain ⟨⟨a1, a2, a3, a4, a5, a6, a7, a8⟩, a9, ⟨a10, a11, a12⟩, a14, ⟨a15, a16⟩, ⟨a21, a22⟩, ⟨a24, a25⟩, a26, a27, a28⟩ := hR
  have i1 := hI.bs10
  have i2 := hI.q40
  have i3 := hI.ca6
  have km_1 : h md = some (.inr (7, [.int (sc 0), .int (sc 1), .int (sc 2), .int (sc 3), .int (sc 4), .int (sc 5), .int (sc 6), .int (sc 7), .int (sc 8), .ref (ad 9), .int (sc 10), .ref (ad 11), .ref (ad 12), .ref (ad 13), .int (sc 14), .int (sc 15), .ref (ad 16), .ref (ad 17), .ref (ad 18), .ref (ad 19), .ref (ad 20), .int (sc 21), .ref (ad 22), .ref (ad 23), .int (sc 24), .int (sc 25), .int (sc 26), .int (sc 27), .int (sc 28)])) := hM.1
  have ka_2 : h (ad 17) = some (.inl (fh_cI E, 41, .inl (ar 17))) := hM.2.1 17 rfl
  have ka_3 : h (ad 18) = some (.inl (fh_cI E, 41, .inl (ar 18))) := hM.2.1 18 rfl
  have ka_4 : h (ad 19) = some (.inl (fh_cI E, 41, .inl (ar 19))) := hM.2.1 19 rfl
  have ka_5 : h (ad 12) = some (.inl (fh_cI E, 11, .inl (ar 12))) := hM.2.1 12 rfl
  have loop : ∀ (f k : Nat) (H : Heap) (locs : List Loc) (ls : Array Slot), k + f = S.q.length → lv_has ls 4 [(3, .int (nI k)), (2, .int (lnV S.q (nI b) (vasM S (nI b)) k)), (0, .ref md), (1, .int (nI b))] → fh_P E.1 vwCl A h H → va_S A s.heap H locs → W p l e ({ frames := 1, cells := 0, slots := 0, locals := 23 }) s m ([.ref md, .int (nI b)] : List Value).toArray below meth c H locs 0 0 (MQ below (fh_Post E (fun r h1 => r = some (.int (newM S (nI b))) ∧ h1 = h) A) ([.ref md, .int (nI b)] : List Value).toArray s 0 0 A) (F0 m 49 ls []) := by
    intro f
    induction f with
    | zero =>
      intro k H locs ls hkf hl hP hS
      refine lv_iload_n hx hb d_MD_newestOf_49 rfl (lv_at hl 0 rfl) ?_
      refine lv_aload_n hx hb d_MD_newestOf_50 rfl (lv_at hl 2 rfl) ?_
      refine fh_get hx hb hG C_MD iG_MD hown hK hP km_1 15 (by decide) gm688 rfl d_MD_newestOf_51 ?_
      refine lv_icmp_ge (tgt := 94) hx hb d_MD_newestOf_54 (by decide) (fun c_6 => ?_) (fun c_6 => ?_)
      · skip
        have hk : k = S.q.length := by omega
        subst hk
        refine lv_aload_n hx hb d_MD_newestOf_94 rfl (lv_at hl 2 rfl) ?_
        refine lv_iload_n hx hb d_MD_newestOf_95 rfl (lv_at hl 3 rfl) ?_
        refine fh_callV (C := R_MD) (y := y_MD_bufferOf) (bytes := b_MD_bufferOf) (maxL := 4) (ret := (some .int)) (index := 134) (As := [.int (nI b)]) (rest := []) ⟨hx, hb, hml, hown, hG⟩ (c_MD_bufferOf l E h md ad sc ar hM (nI b) S.bs.length a10 (by omega)) (cwV 1 hG (gV gm773 gm775 gs_MD_bufferOf gm8 gm776) rfl rfl rfl ⟨rfl, hdy_MD_bufferOf⟩ ⟨Nat.le_of_ble_eq_true rfl, Nat.le_of_ble_eq_true rfl⟩) C_MD.1 km_1 hK hZ hP hS hA rfl hl.1 rfl (Nat.le_of_ble_eq_true rfl) d_MD_newestOf_96 ⟨Nat.le_of_ble_eq_true rfl, Nat.le_of_ble_eq_true rfl⟩ (fun r h1 H locs hq9 hP hS => ?_)
        obtain ⟨rfl, e9⟩ := hq9
        rw [e9] at hP
        refine W.eq (g2 := F0 m 99 ls [.int (lastI (ar 11) (nI b) S.bs.length)]) rfl ?_
        rcases lastI_bf (S := S) (b := nI b) a11 hI.bsnd with ⟨hb9, e9⟩ | ⟨j, c9, hj, hc9, hb9, e9⟩
        · skip
          refine W.eq (g2 := F0 m 99 ls [.int (-1)]) (by rw [e9]) ?_
          refine lv_istore_n (lv' := [(3, .int (-1)), (2, .int (lnV S.q (nI b) (vasM S (nI b)) S.q.length)), (0, .ref md), (1, .int (nI b))]) hx hb d_MD_newestOf_99 rfl hl (by decide) rfl (fun ls hl => ?_)
          refine lv_iload_n hx hb d_MD_newestOf_100 rfl (lv_at hl 0 rfl) ?_
          refine lv_if_ge (tgt := 108) hx hb d_MD_newestOf_101 (by decide) (fun c_7 => ?_) (fun c_7 => ?_)
          · skip
            exact absurd c_7 (by decide)
          · skip
            refine lv_iload_n hx hb d_MD_newestOf_104 rfl (lv_at hl 1 rfl) ?_
            refine lv_goto (tgt := 114) hx hb d_MD_newestOf_105 (by decide) ?_
            exact fh_iret hx hb hr hlocks (Nat.le_of_ble_eq_true rfl) (Nat.le_of_ble_eq_true rfl) hP hS ⟨by rw [newM_ln, hb9], rfl⟩ d_MD_newestOf_114
        · skip
          refine W.eq (g2 := F0 m 99 ls [.int (nI j)]) (by rw [e9]) ?_
          refine lv_istore_n (lv' := [(3, .int (nI j)), (2, .int (lnV S.q (nI b) (vasM S (nI b)) S.q.length)), (0, .ref md), (1, .int (nI b))]) hx hb d_MD_newestOf_99 rfl hl (by decide) rfl (fun ls hl => ?_)
          refine lv_iload_n hx hb d_MD_newestOf_100 rfl (lv_at hl 0 rfl) ?_
          have hjl := (List.getElem?_eq_some_iff.mp hj).1
          obtain ⟨g1, g2, g3⟩ := a11 j c9 hj
          refine lv_if_ge (tgt := 108) hx hb d_MD_newestOf_101 (by decide) (fun c_8 => ?_) (fun c_8 => ?_)
          · skip
            refine lv_aload_n hx hb d_MD_newestOf_108 rfl (lv_at hl 2 rfl) ?_
            refine fh_get hx hb hG C_MD iG_MD hown hK hP km_1 12 (by decide) gm685 rfl d_MD_newestOf_109 ?_
            refine lv_iload_n hx hb d_MD_newestOf_112 rfl (lv_at hl 0 rfl) ?_
            refine fh_ialK hx hb hK hP 0 ka_5 rfl (k := j) (by omega) (by decide) d_MD_newestOf_113 ?_
            rw [g2]
            exact fh_iret hx hb hr hlocks (Nat.le_of_ble_eq_true rfl) (Nat.le_of_ble_eq_true rfl) hP hS ⟨by rw [newM_ln, hb9], rfl⟩ d_MD_newestOf_114
          · skip
            exact absurd (nI_pos' (by omega)) c_8
      · skip
        exact absurd (show sc 15 ≤ nI k by rw [a15, show k = S.q.length by omega]; exact nI_le (Nat.le_refl _) (by omega)) c_6
    | succ f ih =>
      intro k H locs ls hkf hl hP hS
      refine lv_iload_n hx hb d_MD_newestOf_49 rfl (lv_at hl 0 rfl) ?_
      refine lv_aload_n hx hb d_MD_newestOf_50 rfl (lv_at hl 2 rfl) ?_
      refine fh_get hx hb hG C_MD iG_MD hown hK hP km_1 15 (by decide) gm688 rfl d_MD_newestOf_51 ?_
      refine lv_icmp_ge (tgt := 94) hx hb d_MD_newestOf_54 (by decide) (fun c_9 => ?_) (fun c_9 => ?_)
      · skip
        rw [a15] at c_9
        exact absurd c_9 (nI_ge (by omega) (by omega))
      · skip
        obtain ⟨r9, hr9⟩ := mp_get (xs := S.q) (i := k) (by omega)
        obtain ⟨r1, r2, r3, r4, r5⟩ := a16 k r9 hr9
        refine lv_aload_n hx hb d_MD_newestOf_57 rfl (lv_at hl 2 rfl) ?_
        refine fh_get hx hb hG C_MD iG_MD hown hK hP km_1 17 (by decide) gm690 rfl d_MD_newestOf_58 ?_
        refine lv_iload_n hx hb d_MD_newestOf_61 rfl (lv_at hl 0 rfl) ?_
        refine fh_ialK hx hb hK hP 0 ka_2 rfl (k := k) (by omega) (by decide) d_MD_newestOf_62 ?_
        rw [r2]
        refine lv_iconst (v := 1) hx hb d_MD_newestOf_63 (by decide) ?_
        refine lv_icmp_ne (tgt := 86) hx hb d_MD_newestOf_64 (by decide) (fun c_10 => ?_) (fun c_10 => ?_)
        · skip
          refine lv_iload_n hx hb d_MD_newestOf_86 rfl (lv_at hl 1 rfl) ?_
          refine lv_istore_n (lv' := [(2, .int (lnV S.q (nI b) (vasM S (nI b)) k)), (3, .int (nI k)), (0, .ref md), (1, .int (nI b))]) hx hb d_MD_newestOf_87 rfl hl (by decide) rfl (fun ls hl => ?_)
          refine lv_iinc (v := ((nI k)) + 1) (lv' := [(3, .int (((nI k)) + 1)), (2, .int (lnV S.q (nI b) (vasM S (nI b)) k)), (0, .ref md), (1, .int (nI b))]) hx hb d_MD_newestOf_88 hl (k := 1) rfl rfl (by decide) rfl (fun ls hl => ?_)
          refine lv_goto (tgt := 49) hx hb d_MD_newestOf_91 (by decide) ?_
          have e6 : lnV S.q (nI b) (vasM S (nI b)) (k + 1) = lnV S.q (nI b) (vasM S (nI b)) k := (lnV_s hr9).trans (if_neg (fun z => c_10 z.1))
          exact ih (k + 1) H locs ls (by omega) (by rw [nI_succ, e6]; exact lv_sub hl [0, 1, 2, 3] rfl) hP hS
        · skip
          refine lv_aload_n hx hb d_MD_newestOf_67 rfl (lv_at hl 2 rfl) ?_
          refine fh_get hx hb hG C_MD iG_MD hown hK hP km_1 18 (by decide) gm691 rfl d_MD_newestOf_68 ?_
          refine lv_iload_n hx hb d_MD_newestOf_71 rfl (lv_at hl 0 rfl) ?_
          refine fh_ialK hx hb hK hP 0 ka_3 rfl (k := k) (by omega) (by decide) d_MD_newestOf_72 ?_
          rw [r3]
          refine lv_iload_n hx hb d_MD_newestOf_73 rfl (lv_at hl 3 rfl) ?_
          refine lv_icmp_ne (tgt := 86) hx hb d_MD_newestOf_74 (by decide) (fun c_11 => ?_) (fun c_11 => ?_)
          · skip
            refine lv_iload_n hx hb d_MD_newestOf_86 rfl (lv_at hl 1 rfl) ?_
            refine lv_istore_n (lv' := [(2, .int (lnV S.q (nI b) (vasM S (nI b)) k)), (3, .int (nI k)), (0, .ref md), (1, .int (nI b))]) hx hb d_MD_newestOf_87 rfl hl (by decide) rfl (fun ls hl => ?_)
            refine lv_iinc (v := ((nI k)) + 1) (lv' := [(3, .int (((nI k)) + 1)), (2, .int (lnV S.q (nI b) (vasM S (nI b)) k)), (0, .ref md), (1, .int (nI b))]) hx hb d_MD_newestOf_88 hl (k := 1) rfl rfl (by decide) rfl (fun ls hl => ?_)
            refine lv_goto (tgt := 49) hx hb d_MD_newestOf_91 (by decide) ?_
            have e6 : lnV S.q (nI b) (vasM S (nI b)) (k + 1) = lnV S.q (nI b) (vasM S (nI b)) k := (lnV_s hr9).trans (if_neg (fun z => c_11 z.2))
            exact ih (k + 1) H locs ls (by omega) (by rw [nI_succ, e6]; exact lv_sub hl [0, 1, 2, 3] rfl) hP hS
          · skip
            refine lv_aload_n hx hb d_MD_newestOf_77 rfl (lv_at hl 2 rfl) ?_
            refine fh_get hx hb hG C_MD iG_MD hown hK hP km_1 19 (by decide) gm692 rfl d_MD_newestOf_78 ?_
            refine lv_iload_n hx hb d_MD_newestOf_81 rfl (lv_at hl 0 rfl) ?_
            refine fh_ialK hx hb hK hP 0 ka_4 rfl (k := k) (by omega) (by decide) d_MD_newestOf_82 ?_
            rw [r5]
            refine lv_goto (tgt := 87) hx hb d_MD_newestOf_83 (by decide) ?_
            refine lv_istore_n (lv' := [(2, .int (r9.2.2.2.2)), (3, .int (nI k)), (0, .ref md), (1, .int (nI b))]) hx hb d_MD_newestOf_87 rfl hl (by decide) rfl (fun ls hl => ?_)
            refine lv_iinc (v := ((nI k)) + 1) (lv' := [(3, .int (((nI k)) + 1)), (2, .int (r9.2.2.2.2)), (0, .ref md), (1, .int (nI b))]) hx hb d_MD_newestOf_88 hl (k := 1) rfl rfl (by decide) rfl (fun ls hl => ?_)
            refine lv_goto (tgt := 49) hx hb d_MD_newestOf_91 (by decide) ?_
            have e6 : lnV S.q (nI b) (vasM S (nI b)) (k + 1) = r9.2.2.2.2 := (lnV_s hr9).trans (if_pos ⟨c_10, c_11⟩)
            exact ih (k + 1) H locs ls (by omega) (by rw [nI_succ, e6]; exact lv_sub hl [0, 1, 2, 3] rfl) hP hS
  refine lv_aload_n hx hb d_MD_newestOf_0 rfl (lv_at hl 0 rfl) ?_
  refine lv_iload_n hx hb d_MD_newestOf_1 rfl (lv_at hl 1 rfl) ?_
  refine fh_callV (C := R_MD) (y := y_MD_valueAt) (bytes := b_MD_valueAt) (maxL := 4) (ret := (some .int)) (index := 122) (As := [.int (nI b)]) (rest := []) ⟨hx, hb, hml, hown, hG⟩ (c_MD_valueAt l E h md ad sc ar hM b hb256 S.ca.length a21 (by omega)) (cwV 1 hG (gV gm829 gm831 gs_MD_valueAt gm8 gm832) rfl rfl rfl ⟨rfl, hdy_MD_valueAt⟩ ⟨Nat.le_of_ble_eq_true rfl, Nat.le_of_ble_eq_true rfl⟩) C_MD.1 km_1 hK hZ hP hS hA rfl hl.1 rfl (Nat.le_of_ble_eq_true rfl) d_MD_newestOf_2 ⟨Nat.le_of_ble_eq_true rfl, Nat.le_of_ble_eq_true rfl⟩ (fun r h1 H locs hq9 hP hS => ?_)
  obtain ⟨rfl, e9⟩ := hq9
  rw [e9] at hP
  refine W.eq (g2 := F0 m 5 ls [.int (lastV (ar 22) (ar 23) (nI b) (ar 9 b) S.ca.length)]) rfl ?_
  refine W.eq (g2 := F0 m 5 ls [.int (vinM S.mf S.ca (nI b))]) (by rw [lastV_vin a22 hI.cand (by omega) (a9 b hb256)]) ?_
  refine lv_istore_n (lv' := [(2, .int (vinM S.mf S.ca (nI b))), (0, .ref md), (1, .int (nI b))]) hx hb d_MD_newestOf_5 rfl hl (by decide) rfl (fun ls hl => ?_)
  refine lv_aload_n hx hb d_MD_newestOf_6 rfl (lv_at hl 1 rfl) ?_
  refine fh_get hx hb hG C_MD iG_MD hown hK hP km_1 26 (by decide) gm699 rfl d_MD_newestOf_7 ?_
  cases hsv : S.sv with
  | none =>
    rw [a26 hsv]
    refine lv_if_eq (tgt := 45) hx hb d_MD_newestOf_10 (by decide) (fun c_12 => ?_) (fun c_12 => ?_)
    · skip
      refine lv_iload_n hx hb d_MD_newestOf_45 rfl (lv_at hl 0 rfl) ?_
      refine W.eq (g2 := F0 m 46 ls [.int (vasM S (nI b))]) (by unfold vasM; rw [hsv]) ?_
      refine lv_istore_n (lv' := [(2, .int (vasM S (nI b))), (0, .ref md), (1, .int (nI b))]) hx hb d_MD_newestOf_46 rfl hl (by decide) rfl (fun ls hl => ?_)
      refine lv_iconst (v := 0) hx hb d_MD_newestOf_47 (by decide) ?_
      refine lv_istore_n (lv' := [(3, .int 0), (2, .int (vasM S (nI b))), (0, .ref md), (1, .int (nI b))]) hx hb d_MD_newestOf_48 rfl hl (by decide) rfl (fun ls hl => ?_)
      exact loop S.q.length 0 H locs ls (by omega) (by rw [nI_0]; exact lv_sub hl [0, 1, 2, 3] rfl) hP hS
    · skip
      exact absurd rfl c_12
  | some r9 =>
    obtain ⟨b26, h40, b27⟩ := a27 r9 hsv
    rw [b26]
    refine lv_if_eq (tgt := 45) hx hb d_MD_newestOf_10 (by decide) (fun c_13 => ?_) (fun c_13 => ?_)
    · skip
      exact absurd c_13 (by decide)
    · skip
      refine lv_aload_n hx hb d_MD_newestOf_13 rfl (lv_at hl 1 rfl) ?_
      refine fh_get hx hb hG C_MD iG_MD hown hK hP km_1 17 (by decide) gm690 rfl d_MD_newestOf_14 ?_
      refine lv_bipush (v := 40) hx hb d_MD_newestOf_17 (by decide) ?_
      refine W.eq (g2 := F0 m 19 ls [.int (nI 40), .ref (ad 17)]) (rfl) ?_
      refine fh_ialK hx hb hK hP 0 ka_2 rfl (k := 40) (by omega) (by decide) d_MD_newestOf_19 ?_
      rw [h40.2.1]
      refine lv_iconst (v := 1) hx hb d_MD_newestOf_20 (by decide) ?_
      refine lv_icmp_ne (tgt := 45) hx hb d_MD_newestOf_21 (by decide) (fun c_14 => ?_) (fun c_14 => ?_)
      · skip
        refine lv_iload_n hx hb d_MD_newestOf_45 rfl (lv_at hl 0 rfl) ?_
        refine W.eq (g2 := F0 m 46 ls [.int (vasM S (nI b))]) (by unfold vasM; rw [hsv]; simp only []; rw [if_neg (fun z => c_14 z.1)]) ?_
        refine lv_istore_n (lv' := [(2, .int (vasM S (nI b))), (0, .ref md), (1, .int (nI b))]) hx hb d_MD_newestOf_46 rfl hl (by decide) rfl (fun ls hl => ?_)
        refine lv_iconst (v := 0) hx hb d_MD_newestOf_47 (by decide) ?_
        refine lv_istore_n (lv' := [(3, .int 0), (2, .int (vasM S (nI b))), (0, .ref md), (1, .int (nI b))]) hx hb d_MD_newestOf_48 rfl hl (by decide) rfl (fun ls hl => ?_)
        exact loop S.q.length 0 H locs ls (by omega) (by rw [nI_0]; exact lv_sub hl [0, 1, 2, 3] rfl) hP hS
      · skip
        refine lv_aload_n hx hb d_MD_newestOf_24 rfl (lv_at hl 1 rfl) ?_
        refine fh_get hx hb hG C_MD iG_MD hown hK hP km_1 18 (by decide) gm691 rfl d_MD_newestOf_25 ?_
        refine lv_bipush (v := 40) hx hb d_MD_newestOf_28 (by decide) ?_
        refine W.eq (g2 := F0 m 30 ls [.int (nI 40), .ref (ad 18)]) (rfl) ?_
        refine fh_ialK hx hb hK hP 0 ka_3 rfl (k := 40) (by omega) (by decide) d_MD_newestOf_30 ?_
        rw [h40.2.2.1]
        refine lv_iload_n hx hb d_MD_newestOf_31 rfl (lv_at hl 2 rfl) ?_
        refine lv_icmp_ne (tgt := 45) hx hb d_MD_newestOf_32 (by decide) (fun c_15 => ?_) (fun c_15 => ?_)
        · skip
          refine lv_iload_n hx hb d_MD_newestOf_45 rfl (lv_at hl 0 rfl) ?_
          refine W.eq (g2 := F0 m 46 ls [.int (vasM S (nI b))]) (by unfold vasM; rw [hsv]; simp only []; rw [if_neg (fun z => c_15 z.2)]) ?_
          refine lv_istore_n (lv' := [(2, .int (vasM S (nI b))), (0, .ref md), (1, .int (nI b))]) hx hb d_MD_newestOf_46 rfl hl (by decide) rfl (fun ls hl => ?_)
          refine lv_iconst (v := 0) hx hb d_MD_newestOf_47 (by decide) ?_
          refine lv_istore_n (lv' := [(3, .int 0), (2, .int (vasM S (nI b))), (0, .ref md), (1, .int (nI b))]) hx hb d_MD_newestOf_48 rfl hl (by decide) rfl (fun ls hl => ?_)
          exact loop S.q.length 0 H locs ls (by omega) (by rw [nI_0]; exact lv_sub hl [0, 1, 2, 3] rfl) hP hS
        · skip
          refine lv_aload_n hx hb d_MD_newestOf_35 rfl (lv_at hl 1 rfl) ?_
          refine fh_get hx hb hG C_MD iG_MD hown hK hP km_1 19 (by decide) gm692 rfl d_MD_newestOf_36 ?_
          refine lv_bipush (v := 40) hx hb d_MD_newestOf_39 (by decide) ?_
          refine W.eq (g2 := F0 m 41 ls [.int (nI 40), .ref (ad 19)]) (rfl) ?_
          refine fh_ialK hx hb hK hP 0 ka_4 rfl (k := 40) (by omega) (by decide) d_MD_newestOf_41 ?_
          rw [h40.2.2.2.2]
          refine lv_goto (tgt := 46) hx hb d_MD_newestOf_42 (by decide) ?_
          refine W.eq (g2 := F0 m 46 ls [.int (vasM S (nI b))]) (by unfold vasM; rw [hsv]; simp only []; rw [if_pos ⟨c_14, c_15⟩]) ?_
          refine lv_istore_n (lv' := [(2, .int (vasM S (nI b))), (0, .ref md), (1, .int (nI b))]) hx hb d_MD_newestOf_46 rfl hl (by decide) rfl (fun ls hl => ?_)
          refine lv_iconst (v := 0) hx hb d_MD_newestOf_47 (by decide) ?_
          refine lv_istore_n (lv' := [(3, .int 0), (2, .int (vasM S (nI b))), (0, .ref md), (1, .int (nI b))]) hx hb d_MD_newestOf_48 rfl hl (by decide) rfl (fun ls hl => ?_)
          exact loop S.q.length 0 H locs ls (by omega) (by rw [nI_0]; exact lv_sub hl [0, 1, 2, 3] rfl) hP hS

set_option maxHeartbeats 800000 in
set_option maxRecDepth 100000 in
theorem c_MD_crash (l : Launch) (E : fh_E) (h : fh_H) (md : Nat) (ad : Nat → Nat) (sc : Nat → Int32) (ar : Nat → Nat → Int32) (hM : MDs E h md ad sc ar) (S : mS) (t : Nat) (hR : RM sc ar S) (hI : Inv S t)  : fh_Met l y_MD_crash w_MD_crash ({ frames := 2, cells := 0, slots := 0, locals := 46 }) E [.ref md] h (fun r h1 => r = some (.int (nI (loM S 256))) ∧ ∃ sc1 ar1, MDs E h1 md ad sc1 ar1 ∧ RM sc1 ar1 (crM S) ∧ sc1 0 = 0 ∧ KM h h1 md ad) 0 0 := by
  refine fh_ofW (cc := b_MD_crash) (maxL := 3) (ret := (some .int)) (by decide) rfl (Nat.le_of_ble_eq_true rfl) ?_
  intro p e s m below meth c A ls hx hb hr hml hown hts hlocks hname hnoh hadm hA hK hZ hP hS hl
  have hG : ∀ w ∈ G, w.before _ s = true := fun w hw => hts w (List.mem_cons_of_mem _ hw)
  have hown : s.vm.findClass R_MD = some m.cls := hown
  have hl : lv_has ls 3 [(0, .ref md)] := hl
  have hR0 := hR
  obtain ⟨⟨a1, a2, a3, a4, a5, a6, a7, a8⟩, a9, ⟨a10, a11, a12⟩, a14, ⟨a15, a16⟩, ⟨a21, a22⟩, ⟨a24, a25⟩, a26, a27, a28⟩ := hR
  have i1 := hI.bs10
  have i2 := hI.q40
  have i3 := hI.ca6
  have km_1 : h md = some (.inr (7, [.int (sc 0), .int (sc 1), .int (sc 2), .int (sc 3), .int (sc 4), .int (sc 5), .int (sc 6), .int (sc 7), .int (sc 8), .ref (ad 9), .int (sc 10), .ref (ad 11), .ref (ad 12), .ref (ad 13), .int (sc 14), .int (sc 15), .ref (ad 16), .ref (ad 17), .ref (ad 18), .ref (ad 19), .ref (ad 20), .int (sc 21), .ref (ad 22), .ref (ad 23), .int (sc 24), .int (sc 25), .int (sc 26), .int (sc 27), .int (sc 28)])) := hM.1
  refine lv_aload_n hx hb d_MD_crash_0 rfl (lv_at hl 0 rfl) ?_
  refine lv_iconst (v := 0) hx hb d_MD_crash_1 (by decide) ?_
  refine fh_put hx hb hG C_MD iG_MD hown hK hP hS km_1 0 (by decide) gm673 rfl (v := .int 0) rfl rfl (Nat.le_of_ble_eq_true rfl) d_MD_crash_2 (fun H locs hP hS => ?_)
  obtain ⟨h_2, eh_3⟩ : ∃ z : fh_H, z = va_up h md (some (.inr (7, [.int 0, .int (sc 1), .int (sc 2), .int (sc 3), .int (sc 4), .int (sc 5), .int (sc 6), .int (sc 7), .int (sc 8), .ref (ad 9), .int (sc 10), .ref (ad 11), .ref (ad 12), .ref (ad 13), .int (sc 14), .int (sc 15), .ref (ad 16), .ref (ad 17), .ref (ad 18), .ref (ad 19), .ref (ad 20), .int (sc 21), .ref (ad 22), .ref (ad 23), .int (sc 24), .int (sc 25), .int (sc 26), .int (sc 27), .int (sc 28)]))) := ⟨_, rfl⟩
  have hP : fh_P E.1 vwCl A h_2 H := by rw [eh_3]; exact hP
  obtain ⟨sc_4, es_5⟩ : ∃ z : Nat → Int32, z = upd sc 0 (0) := ⟨_, rfl⟩
  have m_6 : MDs E h_2 md ad sc_4 ar := by rw [es_5]; exact hM.setS (by rw [eh_3]; rfl)
  have K_7 : KM h h_2 md ad := (KM.rfl).trans (KM.upS eh_3)
  have km_8 : h_2 md = some (.inr (7, [.int (sc_4 0), .int (sc_4 1), .int (sc_4 2), .int (sc_4 3), .int (sc_4 4), .int (sc_4 5), .int (sc_4 6), .int (sc_4 7), .int (sc_4 8), .ref (ad 9), .int (sc_4 10), .ref (ad 11), .ref (ad 12), .ref (ad 13), .int (sc_4 14), .int (sc_4 15), .ref (ad 16), .ref (ad 17), .ref (ad 18), .ref (ad 19), .ref (ad 20), .int (sc_4 21), .ref (ad 22), .ref (ad 23), .int (sc_4 24), .int (sc_4 25), .int (sc_4 26), .int (sc_4 27), .int (sc_4 28)])) := m_6.1
  have hR1 : RM sc_4 ar S := by rw [es_5]; exact hR0.code
  have c0 : sc_4 0 = 0 := by rw [es_5, upd_eq]
  have km_9 : h_2 md = some (.inr (7, [.int (sc_4 0), .int (sc_4 1), .int (sc_4 2), .int (sc_4 3), .int (sc_4 4), .int (sc_4 5), .int (sc_4 6), .int (sc_4 7), .int (sc_4 8), .ref (ad 9), .int (sc_4 10), .ref (ad 11), .ref (ad 12), .ref (ad 13), .int (sc_4 14), .int (sc_4 15), .ref (ad 16), .ref (ad 17), .ref (ad 18), .ref (ad 19), .ref (ad 20), .int (sc_4 21), .ref (ad 22), .ref (ad 23), .int (sc_4 24), .int (sc_4 25), .int (sc_4 26), .int (sc_4 27), .int (sc_4 28)])) := m_6.1
  have ka_10 : h_2 (ad 9) = some (.inl (fh_cI E, 256, .inl (ar 9))) := m_6.2.1 9 rfl
  refine lv_iconst (v := 0) hx hb d_MD_crash_5 (by decide) ?_
  refine lv_istore_n (lv' := [(1, .int 0), (0, .ref md)]) hx hb d_MD_crash_6 rfl hl (by decide) rfl (fun ls hl => ?_)
  refine lv_iconst (v := 0) hx hb d_MD_crash_7 (by decide) ?_
  refine lv_istore_n (lv' := [(2, .int 0), (1, .int 0), (0, .ref md)]) hx hb d_MD_crash_8 rfl hl (by decide) rfl (fun ls hl => ?_)
  have loop : ∀ (f k : Nat) (H : Heap) (locs : List Loc) (ls : Array Slot), k + f = 256 → lv_has ls 3 [(2, .int (nI k)), (1, .int (nI (loM S k))), (0, .ref md)] → fh_P E.1 vwCl A h_2 H → va_S A s.heap H locs → W p l e ({ frames := 2, cells := 0, slots := 0, locals := 46 }) s m ([.ref md] : List Value).toArray below meth c H locs 0 0 (MQ below (fh_Post E (fun r h1 => r = some (.int (nI (loM S 256))) ∧ ∃ sc1 ar1, MDs E h1 md ad sc1 ar1 ∧ RM sc1 ar1 (crM S) ∧ sc1 0 = 0 ∧ KM h h1 md ad) A) ([.ref md] : List Value).toArray s 0 0 A) (F0 m 9 ls []) := by
    intro f
    induction f with
    | zero =>
      intro k H locs ls hkf hl hP hS
      refine lv_iload_n hx hb d_MD_crash_9 rfl (lv_at hl 0 rfl) ?_
      refine lv_sipush (v := 256) hx hb d_MD_crash_10 (by decide) ?_
      refine lv_icmp_ge (tgt := 44) hx hb d_MD_crash_13 (by decide) (fun c_11 => ?_) (fun c_11 => ?_)
      · skip
        refine lv_aload_n hx hb d_MD_crash_44 rfl (lv_at hl 2 rfl) ?_
        refine lv_iconst (v := 0) hx hb d_MD_crash_45 (by decide) ?_
        refine fh_put hx hb hG C_MD iG_MD hown hK hP hS km_9 10 (by decide) gm683 rfl (v := .int 0) rfl rfl (Nat.le_of_ble_eq_true rfl) d_MD_crash_46 (fun H locs hP hS => ?_)
        obtain ⟨h_12, eh_13⟩ : ∃ z : fh_H, z = va_up h_2 md (some (.inr (7, [.int (sc_4 0), .int (sc_4 1), .int (sc_4 2), .int (sc_4 3), .int (sc_4 4), .int (sc_4 5), .int (sc_4 6), .int (sc_4 7), .int (sc_4 8), .ref (ad 9), .int 0, .ref (ad 11), .ref (ad 12), .ref (ad 13), .int (sc_4 14), .int (sc_4 15), .ref (ad 16), .ref (ad 17), .ref (ad 18), .ref (ad 19), .ref (ad 20), .int (sc_4 21), .ref (ad 22), .ref (ad 23), .int (sc_4 24), .int (sc_4 25), .int (sc_4 26), .int (sc_4 27), .int (sc_4 28)]))) := ⟨_, rfl⟩
        have hP : fh_P E.1 vwCl A h_12 H := by rw [eh_13]; exact hP
        obtain ⟨sc_14, es_15⟩ : ∃ z : Nat → Int32, z = upd sc_4 10 (0) := ⟨_, rfl⟩
        have m_16 : MDs E h_12 md ad sc_14 ar := by rw [es_15]; exact m_6.setS (by rw [eh_13]; rfl)
        have K_17 : KM h h_12 md ad := (K_7).trans (KM.upS eh_13)
        have km_18 : h_12 md = some (.inr (7, [.int (sc_14 0), .int (sc_14 1), .int (sc_14 2), .int (sc_14 3), .int (sc_14 4), .int (sc_14 5), .int (sc_14 6), .int (sc_14 7), .int (sc_14 8), .ref (ad 9), .int (sc_14 10), .ref (ad 11), .ref (ad 12), .ref (ad 13), .int (sc_14 14), .int (sc_14 15), .ref (ad 16), .ref (ad 17), .ref (ad 18), .ref (ad 19), .ref (ad 20), .int (sc_14 21), .ref (ad 22), .ref (ad 23), .int (sc_14 24), .int (sc_14 25), .int (sc_14 26), .int (sc_14 27), .int (sc_14 28)])) := m_16.1
        have ka_19 : h_12 (ad 9) = some (.inl (fh_cI E, 256, .inl (ar 9))) := m_16.2.1 9 rfl
        refine lv_aload_n hx hb d_MD_crash_49 rfl (lv_at hl 2 rfl) ?_
        refine lv_iconst (v := 0) hx hb d_MD_crash_50 (by decide) ?_
        refine fh_put hx hb hG C_MD iG_MD hown hK hP hS km_18 15 (by decide) gm688 rfl (v := .int 0) rfl rfl (Nat.le_of_ble_eq_true rfl) d_MD_crash_51 (fun H locs hP hS => ?_)
        obtain ⟨h_20, eh_21⟩ : ∃ z : fh_H, z = va_up h_12 md (some (.inr (7, [.int (sc_14 0), .int (sc_14 1), .int (sc_14 2), .int (sc_14 3), .int (sc_14 4), .int (sc_14 5), .int (sc_14 6), .int (sc_14 7), .int (sc_14 8), .ref (ad 9), .int (sc_14 10), .ref (ad 11), .ref (ad 12), .ref (ad 13), .int (sc_14 14), .int 0, .ref (ad 16), .ref (ad 17), .ref (ad 18), .ref (ad 19), .ref (ad 20), .int (sc_14 21), .ref (ad 22), .ref (ad 23), .int (sc_14 24), .int (sc_14 25), .int (sc_14 26), .int (sc_14 27), .int (sc_14 28)]))) := ⟨_, rfl⟩
        have hP : fh_P E.1 vwCl A h_20 H := by rw [eh_21]; exact hP
        obtain ⟨sc_22, es_23⟩ : ∃ z : Nat → Int32, z = upd sc_14 15 (0) := ⟨_, rfl⟩
        have m_24 : MDs E h_20 md ad sc_22 ar := by rw [es_23]; exact m_16.setS (by rw [eh_21]; rfl)
        have K_25 : KM h h_20 md ad := (K_17).trans (KM.upS eh_21)
        have km_26 : h_20 md = some (.inr (7, [.int (sc_22 0), .int (sc_22 1), .int (sc_22 2), .int (sc_22 3), .int (sc_22 4), .int (sc_22 5), .int (sc_22 6), .int (sc_22 7), .int (sc_22 8), .ref (ad 9), .int (sc_22 10), .ref (ad 11), .ref (ad 12), .ref (ad 13), .int (sc_22 14), .int (sc_22 15), .ref (ad 16), .ref (ad 17), .ref (ad 18), .ref (ad 19), .ref (ad 20), .int (sc_22 21), .ref (ad 22), .ref (ad 23), .int (sc_22 24), .int (sc_22 25), .int (sc_22 26), .int (sc_22 27), .int (sc_22 28)])) := m_24.1
        have ka_27 : h_20 (ad 9) = some (.inl (fh_cI E, 256, .inl (ar 9))) := m_24.2.1 9 rfl
        refine lv_aload_n hx hb d_MD_crash_54 rfl (lv_at hl 2 rfl) ?_
        refine lv_iconst (v := 0) hx hb d_MD_crash_55 (by decide) ?_
        refine fh_put hx hb hG C_MD iG_MD hown hK hP hS km_26 21 (by decide) gm694 rfl (v := .int 0) rfl rfl (Nat.le_of_ble_eq_true rfl) d_MD_crash_56 (fun H locs hP hS => ?_)
        obtain ⟨h_28, eh_29⟩ : ∃ z : fh_H, z = va_up h_20 md (some (.inr (7, [.int (sc_22 0), .int (sc_22 1), .int (sc_22 2), .int (sc_22 3), .int (sc_22 4), .int (sc_22 5), .int (sc_22 6), .int (sc_22 7), .int (sc_22 8), .ref (ad 9), .int (sc_22 10), .ref (ad 11), .ref (ad 12), .ref (ad 13), .int (sc_22 14), .int (sc_22 15), .ref (ad 16), .ref (ad 17), .ref (ad 18), .ref (ad 19), .ref (ad 20), .int 0, .ref (ad 22), .ref (ad 23), .int (sc_22 24), .int (sc_22 25), .int (sc_22 26), .int (sc_22 27), .int (sc_22 28)]))) := ⟨_, rfl⟩
        have hP : fh_P E.1 vwCl A h_28 H := by rw [eh_29]; exact hP
        obtain ⟨sc_30, es_31⟩ : ∃ z : Nat → Int32, z = upd sc_22 21 (0) := ⟨_, rfl⟩
        have m_32 : MDs E h_28 md ad sc_30 ar := by rw [es_31]; exact m_24.setS (by rw [eh_29]; rfl)
        have K_33 : KM h h_28 md ad := (K_25).trans (KM.upS eh_29)
        have km_34 : h_28 md = some (.inr (7, [.int (sc_30 0), .int (sc_30 1), .int (sc_30 2), .int (sc_30 3), .int (sc_30 4), .int (sc_30 5), .int (sc_30 6), .int (sc_30 7), .int (sc_30 8), .ref (ad 9), .int (sc_30 10), .ref (ad 11), .ref (ad 12), .ref (ad 13), .int (sc_30 14), .int (sc_30 15), .ref (ad 16), .ref (ad 17), .ref (ad 18), .ref (ad 19), .ref (ad 20), .int (sc_30 21), .ref (ad 22), .ref (ad 23), .int (sc_30 24), .int (sc_30 25), .int (sc_30 26), .int (sc_30 27), .int (sc_30 28)])) := m_32.1
        have ka_35 : h_28 (ad 9) = some (.inl (fh_cI E, 256, .inl (ar 9))) := m_32.2.1 9 rfl
        refine lv_aload_n hx hb d_MD_crash_59 rfl (lv_at hl 2 rfl) ?_
        refine lv_iconst (v := 0) hx hb d_MD_crash_60 (by decide) ?_
        refine fh_put hx hb hG C_MD iG_MD hown hK hP hS km_34 26 (by decide) gm699 rfl (v := .int 0) rfl rfl (Nat.le_of_ble_eq_true rfl) d_MD_crash_61 (fun H locs hP hS => ?_)
        obtain ⟨h_36, eh_37⟩ : ∃ z : fh_H, z = va_up h_28 md (some (.inr (7, [.int (sc_30 0), .int (sc_30 1), .int (sc_30 2), .int (sc_30 3), .int (sc_30 4), .int (sc_30 5), .int (sc_30 6), .int (sc_30 7), .int (sc_30 8), .ref (ad 9), .int (sc_30 10), .ref (ad 11), .ref (ad 12), .ref (ad 13), .int (sc_30 14), .int (sc_30 15), .ref (ad 16), .ref (ad 17), .ref (ad 18), .ref (ad 19), .ref (ad 20), .int (sc_30 21), .ref (ad 22), .ref (ad 23), .int (sc_30 24), .int (sc_30 25), .int 0, .int (sc_30 27), .int (sc_30 28)]))) := ⟨_, rfl⟩
        have hP : fh_P E.1 vwCl A h_36 H := by rw [eh_37]; exact hP
        obtain ⟨sc_38, es_39⟩ : ∃ z : Nat → Int32, z = upd sc_30 26 (0) := ⟨_, rfl⟩
        have m_40 : MDs E h_36 md ad sc_38 ar := by rw [es_39]; exact m_32.setS (by rw [eh_37]; rfl)
        have K_41 : KM h h_36 md ad := (K_33).trans (KM.upS eh_37)
        have km_42 : h_36 md = some (.inr (7, [.int (sc_38 0), .int (sc_38 1), .int (sc_38 2), .int (sc_38 3), .int (sc_38 4), .int (sc_38 5), .int (sc_38 6), .int (sc_38 7), .int (sc_38 8), .ref (ad 9), .int (sc_38 10), .ref (ad 11), .ref (ad 12), .ref (ad 13), .int (sc_38 14), .int (sc_38 15), .ref (ad 16), .ref (ad 17), .ref (ad 18), .ref (ad 19), .ref (ad 20), .int (sc_38 21), .ref (ad 22), .ref (ad 23), .int (sc_38 24), .int (sc_38 25), .int (sc_38 26), .int (sc_38 27), .int (sc_38 28)])) := m_40.1
        have ka_43 : h_36 (ad 9) = some (.inl (fh_cI E, 256, .inl (ar 9))) := m_40.2.1 9 rfl
        refine lv_aload_n hx hb d_MD_crash_64 rfl (lv_at hl 2 rfl) ?_
        refine lv_iconst (v := 0) hx hb d_MD_crash_65 (by decide) ?_
        refine fh_put hx hb hG C_MD iG_MD hown hK hP hS km_42 24 (by decide) gm697 rfl (v := .int 0) rfl rfl (Nat.le_of_ble_eq_true rfl) d_MD_crash_66 (fun H locs hP hS => ?_)
        obtain ⟨h_44, eh_45⟩ : ∃ z : fh_H, z = va_up h_36 md (some (.inr (7, [.int (sc_38 0), .int (sc_38 1), .int (sc_38 2), .int (sc_38 3), .int (sc_38 4), .int (sc_38 5), .int (sc_38 6), .int (sc_38 7), .int (sc_38 8), .ref (ad 9), .int (sc_38 10), .ref (ad 11), .ref (ad 12), .ref (ad 13), .int (sc_38 14), .int (sc_38 15), .ref (ad 16), .ref (ad 17), .ref (ad 18), .ref (ad 19), .ref (ad 20), .int (sc_38 21), .ref (ad 22), .ref (ad 23), .int 0, .int (sc_38 25), .int (sc_38 26), .int (sc_38 27), .int (sc_38 28)]))) := ⟨_, rfl⟩
        have hP : fh_P E.1 vwCl A h_44 H := by rw [eh_45]; exact hP
        obtain ⟨sc_46, es_47⟩ : ∃ z : Nat → Int32, z = upd sc_38 24 (0) := ⟨_, rfl⟩
        have m_48 : MDs E h_44 md ad sc_46 ar := by rw [es_47]; exact m_40.setS (by rw [eh_45]; rfl)
        have K_49 : KM h h_44 md ad := (K_41).trans (KM.upS eh_45)
        have km_50 : h_44 md = some (.inr (7, [.int (sc_46 0), .int (sc_46 1), .int (sc_46 2), .int (sc_46 3), .int (sc_46 4), .int (sc_46 5), .int (sc_46 6), .int (sc_46 7), .int (sc_46 8), .ref (ad 9), .int (sc_46 10), .ref (ad 11), .ref (ad 12), .ref (ad 13), .int (sc_46 14), .int (sc_46 15), .ref (ad 16), .ref (ad 17), .ref (ad 18), .ref (ad 19), .ref (ad 20), .int (sc_46 21), .ref (ad 22), .ref (ad 23), .int (sc_46 24), .int (sc_46 25), .int (sc_46 26), .int (sc_46 27), .int (sc_46 28)])) := m_48.1
        have ka_51 : h_44 (ad 9) = some (.inl (fh_cI E, 256, .inl (ar 9))) := m_48.2.1 9 rfl
        refine lv_aload_n hx hb d_MD_crash_69 rfl (lv_at hl 2 rfl) ?_
        refine lv_iconst (v := 1) hx hb d_MD_crash_70 (by decide) ?_
        refine fh_put hx hb hG C_MD iG_MD hown hK hP hS km_50 25 (by decide) gm698 rfl (v := .int 1) rfl rfl (Nat.le_of_ble_eq_true rfl) d_MD_crash_71 (fun H locs hP hS => ?_)
        obtain ⟨h_52, eh_53⟩ : ∃ z : fh_H, z = va_up h_44 md (some (.inr (7, [.int (sc_46 0), .int (sc_46 1), .int (sc_46 2), .int (sc_46 3), .int (sc_46 4), .int (sc_46 5), .int (sc_46 6), .int (sc_46 7), .int (sc_46 8), .ref (ad 9), .int (sc_46 10), .ref (ad 11), .ref (ad 12), .ref (ad 13), .int (sc_46 14), .int (sc_46 15), .ref (ad 16), .ref (ad 17), .ref (ad 18), .ref (ad 19), .ref (ad 20), .int (sc_46 21), .ref (ad 22), .ref (ad 23), .int (sc_46 24), .int 1, .int (sc_46 26), .int (sc_46 27), .int (sc_46 28)]))) := ⟨_, rfl⟩
        have hP : fh_P E.1 vwCl A h_52 H := by rw [eh_53]; exact hP
        obtain ⟨sc_54, es_55⟩ : ∃ z : Nat → Int32, z = upd sc_46 25 (1) := ⟨_, rfl⟩
        have m_56 : MDs E h_52 md ad sc_54 ar := by rw [es_55]; exact m_48.setS (by rw [eh_53]; rfl)
        have K_57 : KM h h_52 md ad := (K_49).trans (KM.upS eh_53)
        have km_58 : h_52 md = some (.inr (7, [.int (sc_54 0), .int (sc_54 1), .int (sc_54 2), .int (sc_54 3), .int (sc_54 4), .int (sc_54 5), .int (sc_54 6), .int (sc_54 7), .int (sc_54 8), .ref (ad 9), .int (sc_54 10), .ref (ad 11), .ref (ad 12), .ref (ad 13), .int (sc_54 14), .int (sc_54 15), .ref (ad 16), .ref (ad 17), .ref (ad 18), .ref (ad 19), .ref (ad 20), .int (sc_54 21), .ref (ad 22), .ref (ad 23), .int (sc_54 24), .int (sc_54 25), .int (sc_54 26), .int (sc_54 27), .int (sc_54 28)])) := m_56.1
        have ka_59 : h_52 (ad 9) = some (.inl (fh_cI E, 256, .inl (ar 9))) := m_56.2.1 9 rfl
        refine lv_iload_n hx hb d_MD_crash_74 rfl (lv_at hl 1 rfl) ?_
        exact fh_iret hx hb hr hlocks (Nat.le_of_ble_eq_true rfl) (Nat.le_of_ble_eq_true rfl) hP hS ⟨by rw [show k = 256 by omega], sc_54, ar, m_56, by rw [es_55, es_47, es_39, es_31, es_23, es_15]; exact hR1.cr, by rw [es_55, upd_ne (by decide), es_47, upd_ne (by decide), es_39, upd_ne (by decide), es_31, upd_ne (by decide), es_23, upd_ne (by decide), es_15, upd_ne (by decide), es_5, upd_eq], K_57⟩ d_MD_crash_75
      · skip
        exact absurd (show (256 : Int32) ≤ nI k by rw [show k = 256 by omega]; decide) c_11
    | succ f ih =>
      intro k H locs ls hkf hl hP hS
      refine lv_iload_n hx hb d_MD_crash_9 rfl (lv_at hl 0 rfl) ?_
      refine lv_sipush (v := 256) hx hb d_MD_crash_10 (by decide) ?_
      refine lv_icmp_ge (tgt := 44) hx hb d_MD_crash_13 (by decide) (fun c_60 => ?_) (fun c_60 => ?_)
      · skip
        exact absurd c_60 (nI_ge (b := 256) (by omega) (by decide))
      · skip
        refine lv_iload_n hx hb d_MD_crash_16 rfl (lv_at hl 1 rfl) ?_
        refine lv_aload_n hx hb d_MD_crash_17 rfl (lv_at hl 2 rfl) ?_
        refine lv_iload_n hx hb d_MD_crash_18 rfl (lv_at hl 0 rfl) ?_
        refine fh_callV (C := R_MD) (y := y_MD_newestOf) (bytes := b_MD_newestOf) (maxL := 4) (ret := (some .int)) (index := 159) (As := [.int (nI k)]) (rest := [.int (nI (loM S k))]) ⟨hx, hb, hml, hown, hG⟩ (c_MD_newestOf l E h_2 md ad sc_4 ar m_6 S t hR1 hI k (by omega)) (cwV 1 hG (gV gm861 gm863 gs_MD_newestOf gm8 gm864) rfl rfl rfl ⟨rfl, hdy_MD_newestOf⟩ ⟨Nat.le_of_ble_eq_true rfl, Nat.le_of_ble_eq_true rfl⟩) C_MD.1 km_9 hK hZ hP hS hA rfl hl.1 rfl (Nat.le_of_ble_eq_true rfl) d_MD_crash_19 ⟨Nat.le_of_ble_eq_true rfl, Nat.le_of_ble_eq_true rfl⟩ (fun r h1 H locs hq9 hP hS => ?_)
        obtain ⟨rfl, e9⟩ := hq9
        rw [e9] at hP
        refine W.eq (g2 := F0 m 22 ls [.int (newM S (nI k)), .int (nI (loM S k))]) rfl ?_
        refine lv_aload_n hx hb d_MD_crash_22 rfl (lv_at hl 2 rfl) ?_
        refine fh_get hx hb hG C_MD iG_MD hown hK hP km_9 9 (by decide) gm682 rfl d_MD_crash_23 ?_
        refine lv_iload_n hx hb d_MD_crash_26 rfl (lv_at hl 0 rfl) ?_
        refine fh_ialK hx hb hK hP 0 ka_10 rfl (k := k) (by omega) (by decide) d_MD_crash_27 ?_
        rw [a9 k (by omega)]
        refine lv_icmp_eq (tgt := 35) hx hb d_MD_crash_28 (by decide) (fun c_61 => ?_) (fun c_61 => ?_)
        · skip
          refine lv_iconst (v := 0) hx hb d_MD_crash_35 (by decide) ?_
          refine lv_iadd hx hb d_MD_crash_36 ?_
          refine lv_istore_n (lv' := [(1, .int (((nI (loM S k))) + 0)), (2, .int (nI k)), (0, .ref md)]) hx hb d_MD_crash_37 rfl hl (by decide) rfl (fun ls hl => ?_)
          refine lv_iinc (v := ((nI k)) + 1) (lv' := [(2, .int (((nI k)) + 1)), (1, .int (((nI (loM S k))) + 0)), (0, .ref md)]) hx hb d_MD_crash_38 hl (k := 1) rfl rfl (by decide) rfl (fun ls hl => ?_)
          refine lv_goto (tgt := 9) hx hb d_MD_crash_41 (by decide) ?_
          have e6 : loM S (k + 1) = loM S k + 0 := congrArg (loM S k + ·) (if_pos c_61)
          exact ih (k + 1) H locs ls (by omega) (by rw [nI_succ, e6, Nat.add_zero, ← Int32.add_zero (nI (loM S k))]; exact hl) hP hS
        · skip
          refine lv_iconst (v := 1) hx hb d_MD_crash_31 (by decide) ?_
          refine lv_goto (tgt := 36) hx hb d_MD_crash_32 (by decide) ?_
          refine lv_iadd hx hb d_MD_crash_36 ?_
          refine lv_istore_n (lv' := [(1, .int (((nI (loM S k))) + 1)), (2, .int (nI k)), (0, .ref md)]) hx hb d_MD_crash_37 rfl hl (by decide) rfl (fun ls hl => ?_)
          refine lv_iinc (v := ((nI k)) + 1) (lv' := [(2, .int (((nI k)) + 1)), (1, .int (((nI (loM S k))) + 1)), (0, .ref md)]) hx hb d_MD_crash_38 hl (k := 1) rfl rfl (by decide) rfl (fun ls hl => ?_)
          refine lv_goto (tgt := 9) hx hb d_MD_crash_41 (by decide) ?_
          have e6 : loM S (k + 1) = loM S k + 1 := congrArg (loM S k + ·) (if_neg c_61)
          exact ih (k + 1) H locs ls (by omega) (by rw [nI_succ, e6, nI_succ]; exact hl) hP hS
  exact loop 256 0 _ _ ls (by omega) (by rw [nI_0]; exact hl) hP hS

set_option maxHeartbeats 800000 in
set_option maxRecDepth 100000 in
theorem c_MD_policy_b (l : Launch) (E : fh_E) (h : fh_H) (md : Nat) (ad : Nat → Nat) (sc : Nat → Int32) (ar : Nat → Nat → Int32) (hM : MDs E h md ad sc ar) (S : mS) (t : Nat) (hR : RM sc ar S) (hI : Inv S t) (b : Int32) (hbad : b.toInt < 0 ∨ (5 : Int) ≤ b.toInt) : fh_Met l y_MD_policy w_MD_policy ({ frames := 0, cells := 0, slots := 0, locals := 0 }) E [.ref md, .int b] h (fun r h1 => r = some (.int 0) ∧ ∃ sc1 ar1, MDs E h1 md ad sc1 ar1 ∧ RM sc1 ar1 S ∧ sc1 0 = 1 ∧ KM h h1 md ad) 0 0 := by
  refine fh_ofW (cc := b_MD_policy) (maxL := 3) (ret := (some .int)) (by decide) rfl (Nat.le_of_ble_eq_true rfl) ?_
  intro p e s m below meth c A ls hx hb hr hml hown hts hlocks hname hnoh hadm hA hK hZ hP hS hl
  have hG : ∀ w ∈ G, w.before _ s = true := fun w hw => hts w (List.mem_cons_of_mem _ hw)
  have hown : s.vm.findClass R_MD = some m.cls := hown
  have hl : lv_has ls 3 [(0, .ref md), (1, .int b)] := hl
  have hR0 := hR
  obtain ⟨⟨a1, a2, a3, a4, a5, a6, a7, a8⟩, a9, ⟨a10, a11, a12⟩, a14, ⟨a15, a16⟩, ⟨a21, a22⟩, ⟨a24, a25⟩, a26, a27, a28⟩ := hR
  have i1 := hI.bs10
  have i2 := hI.q40
  have i3 := hI.ca6
  have km_1 : h md = some (.inr (7, [.int (sc 0), .int (sc 1), .int (sc 2), .int (sc 3), .int (sc 4), .int (sc 5), .int (sc 6), .int (sc 7), .int (sc 8), .ref (ad 9), .int (sc 10), .ref (ad 11), .ref (ad 12), .ref (ad 13), .int (sc 14), .int (sc 15), .ref (ad 16), .ref (ad 17), .ref (ad 18), .ref (ad 19), .ref (ad 20), .int (sc 21), .ref (ad 22), .ref (ad 23), .int (sc 24), .int (sc 25), .int (sc 26), .int (sc 27), .int (sc 28)])) := hM.1
  refine lv_aload_n hx hb d_MD_policy_0 rfl (lv_at hl 0 rfl) ?_
  refine lv_iload_n hx hb d_MD_policy_1 rfl (lv_at hl 1 rfl) ?_
  refine lv_if_lt (tgt := 10) hx hb d_MD_policy_2 (by decide) (fun c_2 => ?_) (fun c_2 => ?_)
  · skip
    refine lv_iconst (v := 1) hx hb d_MD_policy_10 (by decide) ?_
    refine lv_goto (tgt := 15) hx hb d_MD_policy_11 (by decide) ?_
    refine fh_put hx hb hG C_MD iG_MD hown hK hP hS km_1 0 (by decide) gm673 rfl (v := .int 1) rfl rfl (Nat.le_of_ble_eq_true rfl) d_MD_policy_15 (fun H locs hP hS => ?_)
    obtain ⟨h_3, eh_4⟩ : ∃ z : fh_H, z = va_up h md (some (.inr (7, [.int 1, .int (sc 1), .int (sc 2), .int (sc 3), .int (sc 4), .int (sc 5), .int (sc 6), .int (sc 7), .int (sc 8), .ref (ad 9), .int (sc 10), .ref (ad 11), .ref (ad 12), .ref (ad 13), .int (sc 14), .int (sc 15), .ref (ad 16), .ref (ad 17), .ref (ad 18), .ref (ad 19), .ref (ad 20), .int (sc 21), .ref (ad 22), .ref (ad 23), .int (sc 24), .int (sc 25), .int (sc 26), .int (sc 27), .int (sc 28)]))) := ⟨_, rfl⟩
    have hP : fh_P E.1 vwCl A h_3 H := by rw [eh_4]; exact hP
    obtain ⟨sc_5, es_6⟩ : ∃ z : Nat → Int32, z = upd sc 0 (1) := ⟨_, rfl⟩
    have m_7 : MDs E h_3 md ad sc_5 ar := by rw [es_6]; exact hM.setS (by rw [eh_4]; rfl)
    have K_8 : KM h h_3 md ad := (KM.rfl).trans (KM.upS eh_4)
    have km_9 : h_3 md = some (.inr (7, [.int (sc_5 0), .int (sc_5 1), .int (sc_5 2), .int (sc_5 3), .int (sc_5 4), .int (sc_5 5), .int (sc_5 6), .int (sc_5 7), .int (sc_5 8), .ref (ad 9), .int (sc_5 10), .ref (ad 11), .ref (ad 12), .ref (ad 13), .int (sc_5 14), .int (sc_5 15), .ref (ad 16), .ref (ad 17), .ref (ad 18), .ref (ad 19), .ref (ad 20), .int (sc_5 21), .ref (ad 22), .ref (ad 23), .int (sc_5 24), .int (sc_5 25), .int (sc_5 26), .int (sc_5 27), .int (sc_5 28)])) := m_7.1
    refine lv_aload_n hx hb d_MD_policy_18 rfl (lv_at hl 0 rfl) ?_
    refine fh_get hx hb hG C_MD iG_MD hown hK hP km_9 0 (by decide) gm673 rfl d_MD_policy_19 ?_
    rw [show sc_5 0 = 1 by rw [es_6, upd_eq]]
    refine lv_if_le (tgt := 27) hx hb d_MD_policy_22 (by decide) (fun c_10 => ?_) (fun c_10 => ?_)
    · skip
      exact absurd c_10 (by decide)
    · skip
      refine lv_iconst (v := 0) hx hb d_MD_policy_25 (by decide) ?_
      exact fh_iret hx hb hr hlocks (Nat.le_of_ble_eq_true rfl) (Nat.le_of_ble_eq_true rfl) hP hS ⟨rfl, sc_5, ar, m_7, by rw [es_6]; exact hR0.code, by rw [es_6, upd_eq], K_8⟩ d_MD_policy_26
  · skip
    refine lv_iload_n hx hb d_MD_policy_5 rfl (lv_at hl 1 rfl) ?_
    refine lv_iconst (v := 4) hx hb d_MD_policy_6 (by decide) ?_
    refine lv_icmp_le (tgt := 14) hx hb d_MD_policy_7 (by decide) (fun c_11 => ?_) (fun c_11 => ?_)
    · skip
      have w4 : (4 : Int32).toInt = 4 := by decide
      have c4 := Int32.le_iff_toInt_le.mp c_11
      exact absurd hbad (fun z => z.elim (fun w => c_2 (Int32.lt_iff_toInt_lt.mpr w)) (fun w => by omega))
    · skip
      refine lv_iconst (v := 1) hx hb d_MD_policy_10 (by decide) ?_
      refine lv_goto (tgt := 15) hx hb d_MD_policy_11 (by decide) ?_
      refine fh_put hx hb hG C_MD iG_MD hown hK hP hS km_1 0 (by decide) gm673 rfl (v := .int 1) rfl rfl (Nat.le_of_ble_eq_true rfl) d_MD_policy_15 (fun H locs hP hS => ?_)
      obtain ⟨h_12, eh_13⟩ : ∃ z : fh_H, z = va_up h md (some (.inr (7, [.int 1, .int (sc 1), .int (sc 2), .int (sc 3), .int (sc 4), .int (sc 5), .int (sc 6), .int (sc 7), .int (sc 8), .ref (ad 9), .int (sc 10), .ref (ad 11), .ref (ad 12), .ref (ad 13), .int (sc 14), .int (sc 15), .ref (ad 16), .ref (ad 17), .ref (ad 18), .ref (ad 19), .ref (ad 20), .int (sc 21), .ref (ad 22), .ref (ad 23), .int (sc 24), .int (sc 25), .int (sc 26), .int (sc 27), .int (sc 28)]))) := ⟨_, rfl⟩
      have hP : fh_P E.1 vwCl A h_12 H := by rw [eh_13]; exact hP
      obtain ⟨sc_14, es_15⟩ : ∃ z : Nat → Int32, z = upd sc 0 (1) := ⟨_, rfl⟩
      have m_16 : MDs E h_12 md ad sc_14 ar := by rw [es_15]; exact hM.setS (by rw [eh_13]; rfl)
      have K_17 : KM h h_12 md ad := (KM.rfl).trans (KM.upS eh_13)
      have km_18 : h_12 md = some (.inr (7, [.int (sc_14 0), .int (sc_14 1), .int (sc_14 2), .int (sc_14 3), .int (sc_14 4), .int (sc_14 5), .int (sc_14 6), .int (sc_14 7), .int (sc_14 8), .ref (ad 9), .int (sc_14 10), .ref (ad 11), .ref (ad 12), .ref (ad 13), .int (sc_14 14), .int (sc_14 15), .ref (ad 16), .ref (ad 17), .ref (ad 18), .ref (ad 19), .ref (ad 20), .int (sc_14 21), .ref (ad 22), .ref (ad 23), .int (sc_14 24), .int (sc_14 25), .int (sc_14 26), .int (sc_14 27), .int (sc_14 28)])) := m_16.1
      refine lv_aload_n hx hb d_MD_policy_18 rfl (lv_at hl 0 rfl) ?_
      refine fh_get hx hb hG C_MD iG_MD hown hK hP km_18 0 (by decide) gm673 rfl d_MD_policy_19 ?_
      rw [show sc_14 0 = 1 by rw [es_15, upd_eq]]
      refine lv_if_le (tgt := 27) hx hb d_MD_policy_22 (by decide) (fun c_19 => ?_) (fun c_19 => ?_)
      · skip
        exact absurd c_19 (by decide)
      · skip
        refine lv_iconst (v := 0) hx hb d_MD_policy_25 (by decide) ?_
        exact fh_iret hx hb hr hlocks (Nat.le_of_ble_eq_true rfl) (Nat.le_of_ble_eq_true rfl) hP hS ⟨rfl, sc_14, ar, m_16, by rw [es_15]; exact hR0.code, by rw [es_15, upd_eq], K_17⟩ d_MD_policy_26

set_option maxHeartbeats 800000 in
set_option maxRecDepth 100000 in
theorem c_MD_policy (l : Launch) (E : fh_E) (h : fh_H) (md : Nat) (ad : Nat → Nat) (sc : Nat → Int32) (ar : Nat → Nat → Int32) (hM : MDs E h md ad sc ar) (S : mS) (t : Nat) (hR : RM sc ar S) (hI : Inv S t) (n : Nat) (hn : n < 5) : fh_Met l y_MD_policy w_MD_policy ({ frames := 0, cells := 0, slots := 0, locals := 0 }) E [.ref md, .int (nI n)] h (fun r h1 => r = some (.int (S.wy)) ∧ ∃ sc1 ar1, MDs E h1 md ad sc1 ar1 ∧ RM sc1 ar1 (poM S (nI n)) ∧ sc1 0 = 0 ∧ KM h h1 md ad) 0 0 := by
  refine fh_ofW (cc := b_MD_policy) (maxL := 3) (ret := (some .int)) (by decide) rfl (Nat.le_of_ble_eq_true rfl) ?_
  intro p e s m below meth c A ls hx hb hr hml hown hts hlocks hname hnoh hadm hA hK hZ hP hS hl
  have hG : ∀ w ∈ G, w.before _ s = true := fun w hw => hts w (List.mem_cons_of_mem _ hw)
  have hown : s.vm.findClass R_MD = some m.cls := hown
  have hl : lv_has ls 3 [(0, .ref md), (1, .int (nI n))] := hl
  have hR0 := hR
  obtain ⟨⟨a1, a2, a3, a4, a5, a6, a7, a8⟩, a9, ⟨a10, a11, a12⟩, a14, ⟨a15, a16⟩, ⟨a21, a22⟩, ⟨a24, a25⟩, a26, a27, a28⟩ := hR
  have i1 := hI.bs10
  have i2 := hI.q40
  have i3 := hI.ca6
  have km_1 : h md = some (.inr (7, [.int (sc 0), .int (sc 1), .int (sc 2), .int (sc 3), .int (sc 4), .int (sc 5), .int (sc 6), .int (sc 7), .int (sc 8), .ref (ad 9), .int (sc 10), .ref (ad 11), .ref (ad 12), .ref (ad 13), .int (sc 14), .int (sc 15), .ref (ad 16), .ref (ad 17), .ref (ad 18), .ref (ad 19), .ref (ad 20), .int (sc 21), .ref (ad 22), .ref (ad 23), .int (sc 24), .int (sc 25), .int (sc 26), .int (sc 27), .int (sc 28)])) := hM.1
  refine lv_aload_n hx hb d_MD_policy_0 rfl (lv_at hl 0 rfl) ?_
  refine lv_iload_n hx hb d_MD_policy_1 rfl (lv_at hl 1 rfl) ?_
  refine lv_if_lt (tgt := 10) hx hb d_MD_policy_2 (by decide) (fun c_2 => ?_) (fun c_2 => ?_)
  · skip
    exact absurd c_2 (nI_pos (by omega))
  · skip
    refine lv_iload_n hx hb d_MD_policy_5 rfl (lv_at hl 1 rfl) ?_
    refine lv_iconst (v := 4) hx hb d_MD_policy_6 (by decide) ?_
    refine lv_icmp_le (tgt := 14) hx hb d_MD_policy_7 (by decide) (fun c_3 => ?_) (fun c_3 => ?_)
    · skip
      refine lv_iconst (v := 0) hx hb d_MD_policy_14 (by decide) ?_
      refine fh_put hx hb hG C_MD iG_MD hown hK hP hS km_1 0 (by decide) gm673 rfl (v := .int 0) rfl rfl (Nat.le_of_ble_eq_true rfl) d_MD_policy_15 (fun H locs hP hS => ?_)
      obtain ⟨h_4, eh_5⟩ : ∃ z : fh_H, z = va_up h md (some (.inr (7, [.int 0, .int (sc 1), .int (sc 2), .int (sc 3), .int (sc 4), .int (sc 5), .int (sc 6), .int (sc 7), .int (sc 8), .ref (ad 9), .int (sc 10), .ref (ad 11), .ref (ad 12), .ref (ad 13), .int (sc 14), .int (sc 15), .ref (ad 16), .ref (ad 17), .ref (ad 18), .ref (ad 19), .ref (ad 20), .int (sc 21), .ref (ad 22), .ref (ad 23), .int (sc 24), .int (sc 25), .int (sc 26), .int (sc 27), .int (sc 28)]))) := ⟨_, rfl⟩
      have hP : fh_P E.1 vwCl A h_4 H := by rw [eh_5]; exact hP
      obtain ⟨sc_6, es_7⟩ : ∃ z : Nat → Int32, z = upd sc 0 (0) := ⟨_, rfl⟩
      have m_8 : MDs E h_4 md ad sc_6 ar := by rw [es_7]; exact hM.setS (by rw [eh_5]; rfl)
      have K_9 : KM h h_4 md ad := (KM.rfl).trans (KM.upS eh_5)
      have km_10 : h_4 md = some (.inr (7, [.int (sc_6 0), .int (sc_6 1), .int (sc_6 2), .int (sc_6 3), .int (sc_6 4), .int (sc_6 5), .int (sc_6 6), .int (sc_6 7), .int (sc_6 8), .ref (ad 9), .int (sc_6 10), .ref (ad 11), .ref (ad 12), .ref (ad 13), .int (sc_6 14), .int (sc_6 15), .ref (ad 16), .ref (ad 17), .ref (ad 18), .ref (ad 19), .ref (ad 20), .int (sc_6 21), .ref (ad 22), .ref (ad 23), .int (sc_6 24), .int (sc_6 25), .int (sc_6 26), .int (sc_6 27), .int (sc_6 28)])) := m_8.1
      refine lv_aload_n hx hb d_MD_policy_18 rfl (lv_at hl 0 rfl) ?_
      refine fh_get hx hb hG C_MD iG_MD hown hK hP km_10 0 (by decide) gm673 rfl d_MD_policy_19 ?_
      rw [show sc_6 0 = 0 by rw [es_7, upd_eq]]
      refine lv_if_le (tgt := 27) hx hb d_MD_policy_22 (by decide) (fun c_11 => ?_) (fun c_11 => ?_)
      · skip
        have hR1 : RM sc_6 ar S := by rw [es_7]; exact hR0.code
        refine lv_aload_n hx hb d_MD_policy_27 rfl (lv_at hl 0 rfl) ?_
        refine fh_get hx hb hG C_MD iG_MD hown hK hP km_10 8 (by decide) gm681 rfl d_MD_policy_28 ?_
        rw [hR1.1.2.2.2.2.2.2.2]
        refine lv_istore_n (lv' := [(2, .int (S.wy)), (0, .ref md), (1, .int (nI n))]) hx hb d_MD_policy_31 rfl hl (by decide) rfl (fun ls hl => ?_)
        refine lv_aload_n hx hb d_MD_policy_32 rfl (lv_at hl 1 rfl) ?_
        refine lv_iload_n hx hb d_MD_policy_33 rfl (lv_at hl 2 rfl) ?_
        refine fh_put hx hb hG C_MD iG_MD hown hK hP hS km_10 8 (by decide) gm681 rfl (v := .int (nI n)) rfl rfl (Nat.le_of_ble_eq_true rfl) d_MD_policy_34 (fun H locs hP hS => ?_)
        obtain ⟨h_12, eh_13⟩ : ∃ z : fh_H, z = va_up h_4 md (some (.inr (7, [.int (sc_6 0), .int (sc_6 1), .int (sc_6 2), .int (sc_6 3), .int (sc_6 4), .int (sc_6 5), .int (sc_6 6), .int (sc_6 7), .int (nI n), .ref (ad 9), .int (sc_6 10), .ref (ad 11), .ref (ad 12), .ref (ad 13), .int (sc_6 14), .int (sc_6 15), .ref (ad 16), .ref (ad 17), .ref (ad 18), .ref (ad 19), .ref (ad 20), .int (sc_6 21), .ref (ad 22), .ref (ad 23), .int (sc_6 24), .int (sc_6 25), .int (sc_6 26), .int (sc_6 27), .int (sc_6 28)]))) := ⟨_, rfl⟩
        have hP : fh_P E.1 vwCl A h_12 H := by rw [eh_13]; exact hP
        obtain ⟨sc_14, es_15⟩ : ∃ z : Nat → Int32, z = upd sc_6 8 ((nI n)) := ⟨_, rfl⟩
        have m_16 : MDs E h_12 md ad sc_14 ar := by rw [es_15]; exact m_8.setS (by rw [eh_13]; rfl)
        have K_17 : KM h h_12 md ad := (K_9).trans (KM.upS eh_13)
        have km_18 : h_12 md = some (.inr (7, [.int (sc_14 0), .int (sc_14 1), .int (sc_14 2), .int (sc_14 3), .int (sc_14 4), .int (sc_14 5), .int (sc_14 6), .int (sc_14 7), .int (sc_14 8), .ref (ad 9), .int (sc_14 10), .ref (ad 11), .ref (ad 12), .ref (ad 13), .int (sc_14 14), .int (sc_14 15), .ref (ad 16), .ref (ad 17), .ref (ad 18), .ref (ad 19), .ref (ad 20), .int (sc_14 21), .ref (ad 22), .ref (ad 23), .int (sc_14 24), .int (sc_14 25), .int (sc_14 26), .int (sc_14 27), .int (sc_14 28)])) := m_16.1
        refine lv_iload_n hx hb d_MD_policy_37 rfl (lv_at hl 0 rfl) ?_
        exact fh_iret hx hb hr hlocks (Nat.le_of_ble_eq_true rfl) (Nat.le_of_ble_eq_true rfl) hP hS ⟨rfl, sc_14, ar, m_16, by rw [es_15]; exact hR1.po, by rw [es_15, upd_ne (by decide), es_7, upd_eq], K_17⟩ d_MD_policy_38
      · skip
        exact absurd (show (0 : Int32) ≤ 0 by decide) c_11
    · skip
      exact absurd (nI_le (b := 4) (by omega) (by decide)) c_3

set_option maxHeartbeats 800000 in
set_option maxRecDepth 100000 in
theorem c_MD_newest_b (l : Launch) (E : fh_E) (h : fh_H) (md : Nat) (ad : Nat → Nat) (sc : Nat → Int32) (ar : Nat → Nat → Int32) (hM : MDs E h md ad sc ar) (S : mS) (t : Nat) (hR : RM sc ar S) (hI : Inv S t) (b : Int32) (hbad : b.toInt < 0 ∨ (256 : Int) ≤ b.toInt) : fh_Met l y_MD_newest w_MD_newest ({ frames := 2, cells := 0, slots := 0, locals := 46 }) E [.ref md, .int b] h (fun r h1 => r = some (.int 0) ∧ ∃ sc1 ar1, MDs E h1 md ad sc1 ar1 ∧ RM sc1 ar1 S ∧ sc1 0 = 1 ∧ KM h h1 md ad) 0 0 := by
  refine fh_ofW (cc := b_MD_newest) (maxL := 2) (ret := (some .int)) (by decide) rfl (Nat.le_of_ble_eq_true rfl) ?_
  intro p e s m below meth c A ls hx hb hr hml hown hts hlocks hname hnoh hadm hA hK hZ hP hS hl
  have hG : ∀ w ∈ G, w.before _ s = true := fun w hw => hts w (List.mem_cons_of_mem _ hw)
  have hown : s.vm.findClass R_MD = some m.cls := hown
  have hl : lv_has ls 2 [(0, .ref md), (1, .int b)] := hl
  have hR0 := hR
  obtain ⟨⟨a1, a2, a3, a4, a5, a6, a7, a8⟩, a9, ⟨a10, a11, a12⟩, a14, ⟨a15, a16⟩, ⟨a21, a22⟩, ⟨a24, a25⟩, a26, a27, a28⟩ := hR
  have i1 := hI.bs10
  have i2 := hI.q40
  have i3 := hI.ca6
  have km_1 : h md = some (.inr (7, [.int (sc 0), .int (sc 1), .int (sc 2), .int (sc 3), .int (sc 4), .int (sc 5), .int (sc 6), .int (sc 7), .int (sc 8), .ref (ad 9), .int (sc 10), .ref (ad 11), .ref (ad 12), .ref (ad 13), .int (sc 14), .int (sc 15), .ref (ad 16), .ref (ad 17), .ref (ad 18), .ref (ad 19), .ref (ad 20), .int (sc 21), .ref (ad 22), .ref (ad 23), .int (sc 24), .int (sc 25), .int (sc 26), .int (sc 27), .int (sc 28)])) := hM.1
  refine lv_aload_n hx hb d_MD_newest_0 rfl (lv_at hl 0 rfl) ?_
  refine lv_iload_n hx hb d_MD_newest_1 rfl (lv_at hl 1 rfl) ?_
  refine fh_callS (y := y_MD_isBlock) (bytes := b_MD_isBlock) (maxL := 1) (ret := (some .boolean)) (index := 131) (As := [.int b]) (rest := [.ref md]) ⟨hx, hb, hml, hown, hG⟩ (c_MD_isBlock l E h b) ⟨callB_of 1 hG (gB gm772) rfl rfl rfl (hG _ gm8) (hG _ gm770) hdy_MD_isBlock ⟨Nat.le_of_ble_eq_true rfl, Nat.le_of_ble_eq_true rfl⟩, hG _ gm771⟩ hK hZ hP hS hA rfl hl.1 rfl (Nat.le_of_ble_eq_true rfl) d_MD_newest_2 ⟨Nat.le_of_ble_eq_true rfl, Nat.le_of_ble_eq_true rfl⟩ (fun r h1 H locs hq9 hP hS => ?_)
  obtain ⟨rfl, e9⟩ := hq9
  rw [e9] at hP
  refine W.eq (g2 := F0 m 5 ls [.int (if b < 0 ∨ (256 : Int32) ≤ b then 0 else 1), .ref md]) rfl ?_
  refine W.eq (g2 := F0 m 5 ls [.int 0, .ref md]) (by rw [if_pos (blk hbad)]) ?_
  refine lv_if_eq (tgt := 12) hx hb d_MD_newest_5 (by decide) (fun c_2 => ?_) (fun c_2 => ?_)
  · skip
    refine lv_iconst (v := 1) hx hb d_MD_newest_12 (by decide) ?_
    refine fh_put hx hb hG C_MD iG_MD hown hK hP hS km_1 0 (by decide) gm673 rfl (v := .int 1) rfl rfl (Nat.le_of_ble_eq_true rfl) d_MD_newest_13 (fun H locs hP hS => ?_)
    obtain ⟨h_3, eh_4⟩ : ∃ z : fh_H, z = va_up h md (some (.inr (7, [.int 1, .int (sc 1), .int (sc 2), .int (sc 3), .int (sc 4), .int (sc 5), .int (sc 6), .int (sc 7), .int (sc 8), .ref (ad 9), .int (sc 10), .ref (ad 11), .ref (ad 12), .ref (ad 13), .int (sc 14), .int (sc 15), .ref (ad 16), .ref (ad 17), .ref (ad 18), .ref (ad 19), .ref (ad 20), .int (sc 21), .ref (ad 22), .ref (ad 23), .int (sc 24), .int (sc 25), .int (sc 26), .int (sc 27), .int (sc 28)]))) := ⟨_, rfl⟩
    have hP : fh_P E.1 vwCl A h_3 H := by rw [eh_4]; exact hP
    obtain ⟨sc_5, es_6⟩ : ∃ z : Nat → Int32, z = upd sc 0 (1) := ⟨_, rfl⟩
    have m_7 : MDs E h_3 md ad sc_5 ar := by rw [es_6]; exact hM.setS (by rw [eh_4]; rfl)
    have K_8 : KM h h_3 md ad := (KM.rfl).trans (KM.upS eh_4)
    have km_9 : h_3 md = some (.inr (7, [.int (sc_5 0), .int (sc_5 1), .int (sc_5 2), .int (sc_5 3), .int (sc_5 4), .int (sc_5 5), .int (sc_5 6), .int (sc_5 7), .int (sc_5 8), .ref (ad 9), .int (sc_5 10), .ref (ad 11), .ref (ad 12), .ref (ad 13), .int (sc_5 14), .int (sc_5 15), .ref (ad 16), .ref (ad 17), .ref (ad 18), .ref (ad 19), .ref (ad 20), .int (sc_5 21), .ref (ad 22), .ref (ad 23), .int (sc_5 24), .int (sc_5 25), .int (sc_5 26), .int (sc_5 27), .int (sc_5 28)])) := m_7.1
    refine lv_aload_n hx hb d_MD_newest_16 rfl (lv_at hl 0 rfl) ?_
    refine fh_get hx hb hG C_MD iG_MD hown hK hP km_9 0 (by decide) gm673 rfl d_MD_newest_17 ?_
    rw [show sc_5 0 = 1 by rw [es_6, upd_eq]]
    have hR1 : RM sc_5 ar S := by rw [es_6]; exact hR0.code
    refine lv_if_le (tgt := 27) hx hb d_MD_newest_20 (by decide) (fun c_10 => ?_) (fun c_10 => ?_)
    · skip
      exact absurd c_10 (by decide)
    · skip
      refine lv_iconst (v := 0) hx hb d_MD_newest_23 (by decide) ?_
      refine lv_goto (tgt := 32) hx hb d_MD_newest_24 (by decide) ?_
      exact fh_iret hx hb hr hlocks (Nat.le_of_ble_eq_true rfl) (Nat.le_of_ble_eq_true rfl) hP hS ⟨rfl, sc_5, ar, m_7, hR1, by rw [es_6, upd_eq], K_8⟩ d_MD_newest_32
  · skip
    exact absurd rfl c_2

set_option maxHeartbeats 800000 in
set_option maxRecDepth 100000 in
theorem c_MD_newest (l : Launch) (E : fh_E) (h : fh_H) (md : Nat) (ad : Nat → Nat) (sc : Nat → Int32) (ar : Nat → Nat → Int32) (hM : MDs E h md ad sc ar) (S : mS) (t : Nat) (hR : RM sc ar S) (hI : Inv S t) (n : Nat) (hn : n < 256) : fh_Met l y_MD_newest w_MD_newest ({ frames := 2, cells := 0, slots := 0, locals := 46 }) E [.ref md, .int (nI n)] h (fun r h1 => r = some (.int (newM S (nI n))) ∧ ∃ sc1 ar1, MDs E h1 md ad sc1 ar1 ∧ RM sc1 ar1 (S) ∧ sc1 0 = 0 ∧ KM h h1 md ad) 0 0 := by
  refine fh_ofW (cc := b_MD_newest) (maxL := 2) (ret := (some .int)) (by decide) rfl (Nat.le_of_ble_eq_true rfl) ?_
  intro p e s m below meth c A ls hx hb hr hml hown hts hlocks hname hnoh hadm hA hK hZ hP hS hl
  have hG : ∀ w ∈ G, w.before _ s = true := fun w hw => hts w (List.mem_cons_of_mem _ hw)
  have hown : s.vm.findClass R_MD = some m.cls := hown
  have hl : lv_has ls 2 [(0, .ref md), (1, .int (nI n))] := hl
  have hR0 := hR
  obtain ⟨⟨a1, a2, a3, a4, a5, a6, a7, a8⟩, a9, ⟨a10, a11, a12⟩, a14, ⟨a15, a16⟩, ⟨a21, a22⟩, ⟨a24, a25⟩, a26, a27, a28⟩ := hR
  have i1 := hI.bs10
  have i2 := hI.q40
  have i3 := hI.ca6
  have km_1 : h md = some (.inr (7, [.int (sc 0), .int (sc 1), .int (sc 2), .int (sc 3), .int (sc 4), .int (sc 5), .int (sc 6), .int (sc 7), .int (sc 8), .ref (ad 9), .int (sc 10), .ref (ad 11), .ref (ad 12), .ref (ad 13), .int (sc 14), .int (sc 15), .ref (ad 16), .ref (ad 17), .ref (ad 18), .ref (ad 19), .ref (ad 20), .int (sc 21), .ref (ad 22), .ref (ad 23), .int (sc 24), .int (sc 25), .int (sc 26), .int (sc 27), .int (sc 28)])) := hM.1
  refine lv_aload_n hx hb d_MD_newest_0 rfl (lv_at hl 0 rfl) ?_
  refine lv_iload_n hx hb d_MD_newest_1 rfl (lv_at hl 1 rfl) ?_
  refine fh_callS (y := y_MD_isBlock) (bytes := b_MD_isBlock) (maxL := 1) (ret := (some .boolean)) (index := 131) (As := [.int (nI n)]) (rest := [.ref md]) ⟨hx, hb, hml, hown, hG⟩ (c_MD_isBlock l E h (nI n)) ⟨callB_of 1 hG (gB gm772) rfl rfl rfl (hG _ gm8) (hG _ gm770) hdy_MD_isBlock ⟨Nat.le_of_ble_eq_true rfl, Nat.le_of_ble_eq_true rfl⟩, hG _ gm771⟩ hK hZ hP hS hA rfl hl.1 rfl (Nat.le_of_ble_eq_true rfl) d_MD_newest_2 ⟨Nat.le_of_ble_eq_true rfl, Nat.le_of_ble_eq_true rfl⟩ (fun r h1 H locs hq9 hP hS => ?_)
  obtain ⟨rfl, e9⟩ := hq9
  rw [e9] at hP
  refine W.eq (g2 := F0 m 5 ls [.int (if (nI n) < 0 ∨ (256 : Int32) ≤ (nI n) then 0 else 1), .ref md]) rfl ?_
  refine W.eq (g2 := F0 m 5 ls [.int 1, .ref md]) (by rw [if_neg (fun z => z.elim (nI_pos (by omega)) (nI_ge (b := 256) hn (by decide)))]) ?_
  refine lv_if_eq (tgt := 12) hx hb d_MD_newest_5 (by decide) (fun c_2 => ?_) (fun c_2 => ?_)
  · skip
    exact absurd c_2 (by decide)
  · skip
    refine lv_iconst (v := 0) hx hb d_MD_newest_8 (by decide) ?_
    refine lv_goto (tgt := 13) hx hb d_MD_newest_9 (by decide) ?_
    refine fh_put hx hb hG C_MD iG_MD hown hK hP hS km_1 0 (by decide) gm673 rfl (v := .int 0) rfl rfl (Nat.le_of_ble_eq_true rfl) d_MD_newest_13 (fun H locs hP hS => ?_)
    obtain ⟨h_3, eh_4⟩ : ∃ z : fh_H, z = va_up h md (some (.inr (7, [.int 0, .int (sc 1), .int (sc 2), .int (sc 3), .int (sc 4), .int (sc 5), .int (sc 6), .int (sc 7), .int (sc 8), .ref (ad 9), .int (sc 10), .ref (ad 11), .ref (ad 12), .ref (ad 13), .int (sc 14), .int (sc 15), .ref (ad 16), .ref (ad 17), .ref (ad 18), .ref (ad 19), .ref (ad 20), .int (sc 21), .ref (ad 22), .ref (ad 23), .int (sc 24), .int (sc 25), .int (sc 26), .int (sc 27), .int (sc 28)]))) := ⟨_, rfl⟩
    have hP : fh_P E.1 vwCl A h_3 H := by rw [eh_4]; exact hP
    obtain ⟨sc_5, es_6⟩ : ∃ z : Nat → Int32, z = upd sc 0 (0) := ⟨_, rfl⟩
    have m_7 : MDs E h_3 md ad sc_5 ar := by rw [es_6]; exact hM.setS (by rw [eh_4]; rfl)
    have K_8 : KM h h_3 md ad := (KM.rfl).trans (KM.upS eh_4)
    have km_9 : h_3 md = some (.inr (7, [.int (sc_5 0), .int (sc_5 1), .int (sc_5 2), .int (sc_5 3), .int (sc_5 4), .int (sc_5 5), .int (sc_5 6), .int (sc_5 7), .int (sc_5 8), .ref (ad 9), .int (sc_5 10), .ref (ad 11), .ref (ad 12), .ref (ad 13), .int (sc_5 14), .int (sc_5 15), .ref (ad 16), .ref (ad 17), .ref (ad 18), .ref (ad 19), .ref (ad 20), .int (sc_5 21), .ref (ad 22), .ref (ad 23), .int (sc_5 24), .int (sc_5 25), .int (sc_5 26), .int (sc_5 27), .int (sc_5 28)])) := m_7.1
    refine lv_aload_n hx hb d_MD_newest_16 rfl (lv_at hl 0 rfl) ?_
    refine fh_get hx hb hG C_MD iG_MD hown hK hP km_9 0 (by decide) gm673 rfl d_MD_newest_17 ?_
    rw [show sc_5 0 = 0 by rw [es_6, upd_eq]]
    have hR1 : RM sc_5 ar S := by rw [es_6]; exact hR0.code
    refine lv_if_le (tgt := 27) hx hb d_MD_newest_20 (by decide) (fun c_10 => ?_) (fun c_10 => ?_)
    · skip
      refine lv_aload_n hx hb d_MD_newest_27 rfl (lv_at hl 0 rfl) ?_
      refine lv_iload_n hx hb d_MD_newest_28 rfl (lv_at hl 1 rfl) ?_
      refine fh_callV (C := R_MD) (y := y_MD_newestOf) (bytes := b_MD_newestOf) (maxL := 4) (ret := (some .int)) (index := 159) (As := [.int (nI n)]) (rest := []) ⟨hx, hb, hml, hown, hG⟩ (c_MD_newestOf l E h_3 md ad sc_5 ar m_7 S t hR1 hI n hn) (cwV 1 hG (gV gm861 gm863 gs_MD_newestOf gm8 gm864) rfl rfl rfl ⟨rfl, hdy_MD_newestOf⟩ ⟨Nat.le_of_ble_eq_true rfl, Nat.le_of_ble_eq_true rfl⟩) C_MD.1 km_9 hK hZ hP hS hA rfl hl.1 rfl (Nat.le_of_ble_eq_true rfl) d_MD_newest_29 ⟨Nat.le_of_ble_eq_true rfl, Nat.le_of_ble_eq_true rfl⟩ (fun r h1 H locs hq9 hP hS => ?_)
      obtain ⟨rfl, e9⟩ := hq9
      rw [e9] at hP
      refine W.eq (g2 := F0 m 32 ls [.int (newM S (nI n))]) rfl ?_
      exact fh_iret hx hb hr hlocks (Nat.le_of_ble_eq_true rfl) (Nat.le_of_ble_eq_true rfl) hP hS ⟨rfl, sc_5, ar, m_7, hR1, by rw [es_6, upd_eq], K_8⟩ d_MD_newest_32
    · skip
      exact absurd (show (0 : Int32) ≤ 0 by decide) c_10

set_option maxHeartbeats 800000 in
set_option maxRecDepth 100000 in
theorem c_MD_media_b (l : Launch) (E : fh_E) (h : fh_H) (md : Nat) (ad : Nat → Nat) (sc : Nat → Int32) (ar : Nat → Nat → Int32) (hM : MDs E h md ad sc ar) (S : mS) (t : Nat) (hR : RM sc ar S) (hI : Inv S t) (b : Int32) (hbad : b.toInt < 0 ∨ (256 : Int) ≤ b.toInt) : fh_Met l y_MD_media w_MD_media ({ frames := 1, cells := 0, slots := 0, locals := 20 }) E [.ref md, .int b] h (fun r h1 => r = some (.int 0) ∧ ∃ sc1 ar1, MDs E h1 md ad sc1 ar1 ∧ RM sc1 ar1 S ∧ sc1 0 = 1 ∧ KM h h1 md ad) 0 0 := by
  refine fh_ofW (cc := b_MD_media) (maxL := 2) (ret := (some .int)) (by decide) rfl (Nat.le_of_ble_eq_true rfl) ?_
  intro p e s m below meth c A ls hx hb hr hml hown hts hlocks hname hnoh hadm hA hK hZ hP hS hl
  have hG : ∀ w ∈ G, w.before _ s = true := fun w hw => hts w (List.mem_cons_of_mem _ hw)
  have hown : s.vm.findClass R_MD = some m.cls := hown
  have hl : lv_has ls 2 [(0, .ref md), (1, .int b)] := hl
  have hR0 := hR
  obtain ⟨⟨a1, a2, a3, a4, a5, a6, a7, a8⟩, a9, ⟨a10, a11, a12⟩, a14, ⟨a15, a16⟩, ⟨a21, a22⟩, ⟨a24, a25⟩, a26, a27, a28⟩ := hR
  have i1 := hI.bs10
  have i2 := hI.q40
  have i3 := hI.ca6
  have km_1 : h md = some (.inr (7, [.int (sc 0), .int (sc 1), .int (sc 2), .int (sc 3), .int (sc 4), .int (sc 5), .int (sc 6), .int (sc 7), .int (sc 8), .ref (ad 9), .int (sc 10), .ref (ad 11), .ref (ad 12), .ref (ad 13), .int (sc 14), .int (sc 15), .ref (ad 16), .ref (ad 17), .ref (ad 18), .ref (ad 19), .ref (ad 20), .int (sc 21), .ref (ad 22), .ref (ad 23), .int (sc 24), .int (sc 25), .int (sc 26), .int (sc 27), .int (sc 28)])) := hM.1
  refine lv_aload_n hx hb d_MD_media_0 rfl (lv_at hl 0 rfl) ?_
  refine lv_iload_n hx hb d_MD_media_1 rfl (lv_at hl 1 rfl) ?_
  refine fh_callS (y := y_MD_isBlock) (bytes := b_MD_isBlock) (maxL := 1) (ret := (some .boolean)) (index := 131) (As := [.int b]) (rest := [.ref md]) ⟨hx, hb, hml, hown, hG⟩ (c_MD_isBlock l E h b) ⟨callB_of 1 hG (gB gm772) rfl rfl rfl (hG _ gm8) (hG _ gm770) hdy_MD_isBlock ⟨Nat.le_of_ble_eq_true rfl, Nat.le_of_ble_eq_true rfl⟩, hG _ gm771⟩ hK hZ hP hS hA rfl hl.1 rfl (Nat.le_of_ble_eq_true rfl) d_MD_media_2 ⟨Nat.le_of_ble_eq_true rfl, Nat.le_of_ble_eq_true rfl⟩ (fun r h1 H locs hq9 hP hS => ?_)
  obtain ⟨rfl, e9⟩ := hq9
  rw [e9] at hP
  refine W.eq (g2 := F0 m 5 ls [.int (if b < 0 ∨ (256 : Int32) ≤ b then 0 else 1), .ref md]) rfl ?_
  refine W.eq (g2 := F0 m 5 ls [.int 0, .ref md]) (by rw [if_pos (blk hbad)]) ?_
  refine lv_if_eq (tgt := 12) hx hb d_MD_media_5 (by decide) (fun c_2 => ?_) (fun c_2 => ?_)
  · skip
    refine lv_iconst (v := 1) hx hb d_MD_media_12 (by decide) ?_
    refine fh_put hx hb hG C_MD iG_MD hown hK hP hS km_1 0 (by decide) gm673 rfl (v := .int 1) rfl rfl (Nat.le_of_ble_eq_true rfl) d_MD_media_13 (fun H locs hP hS => ?_)
    obtain ⟨h_3, eh_4⟩ : ∃ z : fh_H, z = va_up h md (some (.inr (7, [.int 1, .int (sc 1), .int (sc 2), .int (sc 3), .int (sc 4), .int (sc 5), .int (sc 6), .int (sc 7), .int (sc 8), .ref (ad 9), .int (sc 10), .ref (ad 11), .ref (ad 12), .ref (ad 13), .int (sc 14), .int (sc 15), .ref (ad 16), .ref (ad 17), .ref (ad 18), .ref (ad 19), .ref (ad 20), .int (sc 21), .ref (ad 22), .ref (ad 23), .int (sc 24), .int (sc 25), .int (sc 26), .int (sc 27), .int (sc 28)]))) := ⟨_, rfl⟩
    have hP : fh_P E.1 vwCl A h_3 H := by rw [eh_4]; exact hP
    obtain ⟨sc_5, es_6⟩ : ∃ z : Nat → Int32, z = upd sc 0 (1) := ⟨_, rfl⟩
    have m_7 : MDs E h_3 md ad sc_5 ar := by rw [es_6]; exact hM.setS (by rw [eh_4]; rfl)
    have K_8 : KM h h_3 md ad := (KM.rfl).trans (KM.upS eh_4)
    have km_9 : h_3 md = some (.inr (7, [.int (sc_5 0), .int (sc_5 1), .int (sc_5 2), .int (sc_5 3), .int (sc_5 4), .int (sc_5 5), .int (sc_5 6), .int (sc_5 7), .int (sc_5 8), .ref (ad 9), .int (sc_5 10), .ref (ad 11), .ref (ad 12), .ref (ad 13), .int (sc_5 14), .int (sc_5 15), .ref (ad 16), .ref (ad 17), .ref (ad 18), .ref (ad 19), .ref (ad 20), .int (sc_5 21), .ref (ad 22), .ref (ad 23), .int (sc_5 24), .int (sc_5 25), .int (sc_5 26), .int (sc_5 27), .int (sc_5 28)])) := m_7.1
    refine lv_aload_n hx hb d_MD_media_16 rfl (lv_at hl 0 rfl) ?_
    refine fh_get hx hb hG C_MD iG_MD hown hK hP km_9 0 (by decide) gm673 rfl d_MD_media_17 ?_
    rw [show sc_5 0 = 1 by rw [es_6, upd_eq]]
    have hR1 : RM sc_5 ar S := by rw [es_6]; exact hR0.code
    refine lv_if_le (tgt := 27) hx hb d_MD_media_20 (by decide) (fun c_10 => ?_) (fun c_10 => ?_)
    · skip
      exact absurd c_10 (by decide)
    · skip
      refine lv_iconst (v := 0) hx hb d_MD_media_23 (by decide) ?_
      refine lv_goto (tgt := 33) hx hb d_MD_media_24 (by decide) ?_
      exact fh_iret hx hb hr hlocks (Nat.le_of_ble_eq_true rfl) (Nat.le_of_ble_eq_true rfl) hP hS ⟨rfl, sc_5, ar, m_7, hR1, by rw [es_6, upd_eq], K_8⟩ d_MD_media_33
  · skip
    exact absurd rfl c_2

set_option maxHeartbeats 800000 in
set_option maxRecDepth 100000 in
theorem c_MD_media (l : Launch) (E : fh_E) (h : fh_H) (md : Nat) (ad : Nat → Nat) (sc : Nat → Int32) (ar : Nat → Nat → Int32) (hM : MDs E h md ad sc ar) (S : mS) (t : Nat) (hR : RM sc ar S) (hI : Inv S t) (n : Nat) (hn : n < 256) : fh_Met l y_MD_media w_MD_media ({ frames := 1, cells := 0, slots := 0, locals := 20 }) E [.ref md, .int (nI n)] h (fun r h1 => r = some (.int (S.mf n)) ∧ ∃ sc1 ar1, MDs E h1 md ad sc1 ar1 ∧ RM sc1 ar1 (S) ∧ sc1 0 = 0 ∧ KM h h1 md ad) 0 0 := by
  refine fh_ofW (cc := b_MD_media) (maxL := 2) (ret := (some .int)) (by decide) rfl (Nat.le_of_ble_eq_true rfl) ?_
  intro p e s m below meth c A ls hx hb hr hml hown hts hlocks hname hnoh hadm hA hK hZ hP hS hl
  have hG : ∀ w ∈ G, w.before _ s = true := fun w hw => hts w (List.mem_cons_of_mem _ hw)
  have hown : s.vm.findClass R_MD = some m.cls := hown
  have hl : lv_has ls 2 [(0, .ref md), (1, .int (nI n))] := hl
  have hR0 := hR
  obtain ⟨⟨a1, a2, a3, a4, a5, a6, a7, a8⟩, a9, ⟨a10, a11, a12⟩, a14, ⟨a15, a16⟩, ⟨a21, a22⟩, ⟨a24, a25⟩, a26, a27, a28⟩ := hR
  have i1 := hI.bs10
  have i2 := hI.q40
  have i3 := hI.ca6
  have km_1 : h md = some (.inr (7, [.int (sc 0), .int (sc 1), .int (sc 2), .int (sc 3), .int (sc 4), .int (sc 5), .int (sc 6), .int (sc 7), .int (sc 8), .ref (ad 9), .int (sc 10), .ref (ad 11), .ref (ad 12), .ref (ad 13), .int (sc 14), .int (sc 15), .ref (ad 16), .ref (ad 17), .ref (ad 18), .ref (ad 19), .ref (ad 20), .int (sc 21), .ref (ad 22), .ref (ad 23), .int (sc 24), .int (sc 25), .int (sc 26), .int (sc 27), .int (sc 28)])) := hM.1
  refine lv_aload_n hx hb d_MD_media_0 rfl (lv_at hl 0 rfl) ?_
  refine lv_iload_n hx hb d_MD_media_1 rfl (lv_at hl 1 rfl) ?_
  refine fh_callS (y := y_MD_isBlock) (bytes := b_MD_isBlock) (maxL := 1) (ret := (some .boolean)) (index := 131) (As := [.int (nI n)]) (rest := [.ref md]) ⟨hx, hb, hml, hown, hG⟩ (c_MD_isBlock l E h (nI n)) ⟨callB_of 1 hG (gB gm772) rfl rfl rfl (hG _ gm8) (hG _ gm770) hdy_MD_isBlock ⟨Nat.le_of_ble_eq_true rfl, Nat.le_of_ble_eq_true rfl⟩, hG _ gm771⟩ hK hZ hP hS hA rfl hl.1 rfl (Nat.le_of_ble_eq_true rfl) d_MD_media_2 ⟨Nat.le_of_ble_eq_true rfl, Nat.le_of_ble_eq_true rfl⟩ (fun r h1 H locs hq9 hP hS => ?_)
  obtain ⟨rfl, e9⟩ := hq9
  rw [e9] at hP
  refine W.eq (g2 := F0 m 5 ls [.int (if (nI n) < 0 ∨ (256 : Int32) ≤ (nI n) then 0 else 1), .ref md]) rfl ?_
  refine W.eq (g2 := F0 m 5 ls [.int 1, .ref md]) (by rw [if_neg (fun z => z.elim (nI_pos (by omega)) (nI_ge (b := 256) hn (by decide)))]) ?_
  refine lv_if_eq (tgt := 12) hx hb d_MD_media_5 (by decide) (fun c_2 => ?_) (fun c_2 => ?_)
  · skip
    exact absurd c_2 (by decide)
  · skip
    refine lv_iconst (v := 0) hx hb d_MD_media_8 (by decide) ?_
    refine lv_goto (tgt := 13) hx hb d_MD_media_9 (by decide) ?_
    refine fh_put hx hb hG C_MD iG_MD hown hK hP hS km_1 0 (by decide) gm673 rfl (v := .int 0) rfl rfl (Nat.le_of_ble_eq_true rfl) d_MD_media_13 (fun H locs hP hS => ?_)
    obtain ⟨h_3, eh_4⟩ : ∃ z : fh_H, z = va_up h md (some (.inr (7, [.int 0, .int (sc 1), .int (sc 2), .int (sc 3), .int (sc 4), .int (sc 5), .int (sc 6), .int (sc 7), .int (sc 8), .ref (ad 9), .int (sc 10), .ref (ad 11), .ref (ad 12), .ref (ad 13), .int (sc 14), .int (sc 15), .ref (ad 16), .ref (ad 17), .ref (ad 18), .ref (ad 19), .ref (ad 20), .int (sc 21), .ref (ad 22), .ref (ad 23), .int (sc 24), .int (sc 25), .int (sc 26), .int (sc 27), .int (sc 28)]))) := ⟨_, rfl⟩
    have hP : fh_P E.1 vwCl A h_3 H := by rw [eh_4]; exact hP
    obtain ⟨sc_5, es_6⟩ : ∃ z : Nat → Int32, z = upd sc 0 (0) := ⟨_, rfl⟩
    have m_7 : MDs E h_3 md ad sc_5 ar := by rw [es_6]; exact hM.setS (by rw [eh_4]; rfl)
    have K_8 : KM h h_3 md ad := (KM.rfl).trans (KM.upS eh_4)
    have km_9 : h_3 md = some (.inr (7, [.int (sc_5 0), .int (sc_5 1), .int (sc_5 2), .int (sc_5 3), .int (sc_5 4), .int (sc_5 5), .int (sc_5 6), .int (sc_5 7), .int (sc_5 8), .ref (ad 9), .int (sc_5 10), .ref (ad 11), .ref (ad 12), .ref (ad 13), .int (sc_5 14), .int (sc_5 15), .ref (ad 16), .ref (ad 17), .ref (ad 18), .ref (ad 19), .ref (ad 20), .int (sc_5 21), .ref (ad 22), .ref (ad 23), .int (sc_5 24), .int (sc_5 25), .int (sc_5 26), .int (sc_5 27), .int (sc_5 28)])) := m_7.1
    refine lv_aload_n hx hb d_MD_media_16 rfl (lv_at hl 0 rfl) ?_
    refine fh_get hx hb hG C_MD iG_MD hown hK hP km_9 0 (by decide) gm673 rfl d_MD_media_17 ?_
    rw [show sc_5 0 = 0 by rw [es_6, upd_eq]]
    have hR1 : RM sc_5 ar S := by rw [es_6]; exact hR0.code
    refine lv_if_le (tgt := 27) hx hb d_MD_media_20 (by decide) (fun c_10 => ?_) (fun c_10 => ?_)
    · skip
      have km_11 : h_3 md = some (.inr (7, [.int (sc_5 0), .int (sc_5 1), .int (sc_5 2), .int (sc_5 3), .int (sc_5 4), .int (sc_5 5), .int (sc_5 6), .int (sc_5 7), .int (sc_5 8), .ref (ad 9), .int (sc_5 10), .ref (ad 11), .ref (ad 12), .ref (ad 13), .int (sc_5 14), .int (sc_5 15), .ref (ad 16), .ref (ad 17), .ref (ad 18), .ref (ad 19), .ref (ad 20), .int (sc_5 21), .ref (ad 22), .ref (ad 23), .int (sc_5 24), .int (sc_5 25), .int (sc_5 26), .int (sc_5 27), .int (sc_5 28)])) := m_7.1
      have ka_12 : h_3 (ad 9) = some (.inl (fh_cI E, 256, .inl (ar 9))) := m_7.2.1 9 rfl
      refine lv_aload_n hx hb d_MD_media_27 rfl (lv_at hl 0 rfl) ?_
      refine fh_get hx hb hG C_MD iG_MD hown hK hP km_11 9 (by decide) gm682 rfl d_MD_media_28 ?_
      refine lv_iload_n hx hb d_MD_media_31 rfl (lv_at hl 1 rfl) ?_
      refine fh_ialK hx hb hK hP 0 ka_12 rfl (k := n) (by omega) (by decide) d_MD_media_32 ?_
      rw [a9 n hn]
      exact fh_iret hx hb hr hlocks (Nat.le_of_ble_eq_true rfl) (Nat.le_of_ble_eq_true rfl) hP hS ⟨rfl, sc_5, ar, m_7, hR1, by rw [es_6, upd_eq], K_8⟩ d_MD_media_33
    · skip
      exact absurd (show (0 : Int32) ≤ 0 by decide) c_10

set_option maxHeartbeats 800000 in
set_option maxRecDepth 100000 in
theorem c_MD_buffer_b (l : Launch) (E : fh_E) (h : fh_H) (md : Nat) (ad : Nat → Nat) (sc : Nat → Int32) (ar : Nat → Nat → Int32) (hM : MDs E h md ad sc ar) (S : mS) (t : Nat) (hR : RM sc ar S) (hI : Inv S t) (b : Int32) (hbad : b.toInt < 0 ∨ (256 : Int) ≤ b.toInt) : fh_Met l y_MD_buffer w_MD_buffer ({ frames := 1, cells := 0, slots := 0, locals := 23 }) E [.ref md, .int b] h (fun r h1 => r = some (.int 0) ∧ ∃ sc1 ar1, MDs E h1 md ad sc1 ar1 ∧ RM sc1 ar1 S ∧ sc1 0 = 1 ∧ KM h h1 md ad) 0 0 := by
  refine fh_ofW (cc := b_MD_buffer) (maxL := 3) (ret := (some .int)) (by decide) rfl (Nat.le_of_ble_eq_true rfl) ?_
  intro p e s m below meth c A ls hx hb hr hml hown hts hlocks hname hnoh hadm hA hK hZ hP hS hl
  have hG : ∀ w ∈ G, w.before _ s = true := fun w hw => hts w (List.mem_cons_of_mem _ hw)
  have hown : s.vm.findClass R_MD = some m.cls := hown
  have hl : lv_has ls 3 [(0, .ref md), (1, .int b)] := hl
  have hR0 := hR
  obtain ⟨⟨a1, a2, a3, a4, a5, a6, a7, a8⟩, a9, ⟨a10, a11, a12⟩, a14, ⟨a15, a16⟩, ⟨a21, a22⟩, ⟨a24, a25⟩, a26, a27, a28⟩ := hR
  have i1 := hI.bs10
  have i2 := hI.q40
  have i3 := hI.ca6
  have km_1 : h md = some (.inr (7, [.int (sc 0), .int (sc 1), .int (sc 2), .int (sc 3), .int (sc 4), .int (sc 5), .int (sc 6), .int (sc 7), .int (sc 8), .ref (ad 9), .int (sc 10), .ref (ad 11), .ref (ad 12), .ref (ad 13), .int (sc 14), .int (sc 15), .ref (ad 16), .ref (ad 17), .ref (ad 18), .ref (ad 19), .ref (ad 20), .int (sc 21), .ref (ad 22), .ref (ad 23), .int (sc 24), .int (sc 25), .int (sc 26), .int (sc 27), .int (sc 28)])) := hM.1
  refine lv_aload_n hx hb d_MD_buffer_0 rfl (lv_at hl 0 rfl) ?_
  refine lv_iload_n hx hb d_MD_buffer_1 rfl (lv_at hl 1 rfl) ?_
  refine fh_callS (y := y_MD_isBlock) (bytes := b_MD_isBlock) (maxL := 1) (ret := (some .boolean)) (index := 131) (As := [.int b]) (rest := [.ref md]) ⟨hx, hb, hml, hown, hG⟩ (c_MD_isBlock l E h b) ⟨callB_of 1 hG (gB gm772) rfl rfl rfl (hG _ gm8) (hG _ gm770) hdy_MD_isBlock ⟨Nat.le_of_ble_eq_true rfl, Nat.le_of_ble_eq_true rfl⟩, hG _ gm771⟩ hK hZ hP hS hA rfl hl.1 rfl (Nat.le_of_ble_eq_true rfl) d_MD_buffer_2 ⟨Nat.le_of_ble_eq_true rfl, Nat.le_of_ble_eq_true rfl⟩ (fun r h1 H locs hq9 hP hS => ?_)
  obtain ⟨rfl, e9⟩ := hq9
  rw [e9] at hP
  refine W.eq (g2 := F0 m 5 ls [.int (if b < 0 ∨ (256 : Int32) ≤ b then 0 else 1), .ref md]) rfl ?_
  refine W.eq (g2 := F0 m 5 ls [.int 0, .ref md]) (by rw [if_pos (blk hbad)]) ?_
  refine lv_if_eq (tgt := 12) hx hb d_MD_buffer_5 (by decide) (fun c_2 => ?_) (fun c_2 => ?_)
  · skip
    refine lv_iconst (v := 1) hx hb d_MD_buffer_12 (by decide) ?_
    refine fh_put hx hb hG C_MD iG_MD hown hK hP hS km_1 0 (by decide) gm673 rfl (v := .int 1) rfl rfl (Nat.le_of_ble_eq_true rfl) d_MD_buffer_13 (fun H locs hP hS => ?_)
    obtain ⟨h_3, eh_4⟩ : ∃ z : fh_H, z = va_up h md (some (.inr (7, [.int 1, .int (sc 1), .int (sc 2), .int (sc 3), .int (sc 4), .int (sc 5), .int (sc 6), .int (sc 7), .int (sc 8), .ref (ad 9), .int (sc 10), .ref (ad 11), .ref (ad 12), .ref (ad 13), .int (sc 14), .int (sc 15), .ref (ad 16), .ref (ad 17), .ref (ad 18), .ref (ad 19), .ref (ad 20), .int (sc 21), .ref (ad 22), .ref (ad 23), .int (sc 24), .int (sc 25), .int (sc 26), .int (sc 27), .int (sc 28)]))) := ⟨_, rfl⟩
    have hP : fh_P E.1 vwCl A h_3 H := by rw [eh_4]; exact hP
    obtain ⟨sc_5, es_6⟩ : ∃ z : Nat → Int32, z = upd sc 0 (1) := ⟨_, rfl⟩
    have m_7 : MDs E h_3 md ad sc_5 ar := by rw [es_6]; exact hM.setS (by rw [eh_4]; rfl)
    have K_8 : KM h h_3 md ad := (KM.rfl).trans (KM.upS eh_4)
    have km_9 : h_3 md = some (.inr (7, [.int (sc_5 0), .int (sc_5 1), .int (sc_5 2), .int (sc_5 3), .int (sc_5 4), .int (sc_5 5), .int (sc_5 6), .int (sc_5 7), .int (sc_5 8), .ref (ad 9), .int (sc_5 10), .ref (ad 11), .ref (ad 12), .ref (ad 13), .int (sc_5 14), .int (sc_5 15), .ref (ad 16), .ref (ad 17), .ref (ad 18), .ref (ad 19), .ref (ad 20), .int (sc_5 21), .ref (ad 22), .ref (ad 23), .int (sc_5 24), .int (sc_5 25), .int (sc_5 26), .int (sc_5 27), .int (sc_5 28)])) := m_7.1
    refine lv_aload_n hx hb d_MD_buffer_16 rfl (lv_at hl 0 rfl) ?_
    refine fh_get hx hb hG C_MD iG_MD hown hK hP km_9 0 (by decide) gm673 rfl d_MD_buffer_17 ?_
    rw [show sc_5 0 = 1 by rw [es_6, upd_eq]]
    have hR1 : RM sc_5 ar S := by rw [es_6]; exact hR0.code
    refine lv_if_le (tgt := 25) hx hb d_MD_buffer_20 (by decide) (fun c_10 => ?_) (fun c_10 => ?_)
    · skip
      exact absurd c_10 (by decide)
    · skip
      refine lv_iconst (v := 0) hx hb d_MD_buffer_23 (by decide) ?_
      exact fh_iret hx hb hr hlocks (Nat.le_of_ble_eq_true rfl) (Nat.le_of_ble_eq_true rfl) hP hS ⟨rfl, sc_5, ar, m_7, hR1, by rw [es_6, upd_eq], K_8⟩ d_MD_buffer_24
  · skip
    exact absurd rfl c_2

set_option maxHeartbeats 800000 in
set_option maxRecDepth 100000 in
theorem c_MD_buffer (l : Launch) (E : fh_E) (h : fh_H) (md : Nat) (ad : Nat → Nat) (sc : Nat → Int32) (ar : Nat → Nat → Int32) (hM : MDs E h md ad sc ar) (S : mS) (t : Nat) (hR : RM sc ar S) (hI : Inv S t) (n : Nat) (hn : n < 256) : fh_Met l y_MD_buffer w_MD_buffer ({ frames := 1, cells := 0, slots := 0, locals := 23 }) E [.ref md, .int (nI n)] h (fun r h1 => r = some (.int (match bfM S (nI n) with | some c => if c.2.2 = 0 then 1 else 2 | none => 0)) ∧ ∃ sc1 ar1, MDs E h1 md ad sc1 ar1 ∧ RM sc1 ar1 (S) ∧ sc1 0 = 0 ∧ KM h h1 md ad) 0 0 := by
  refine fh_ofW (cc := b_MD_buffer) (maxL := 3) (ret := (some .int)) (by decide) rfl (Nat.le_of_ble_eq_true rfl) ?_
  intro p e s m below meth c A ls hx hb hr hml hown hts hlocks hname hnoh hadm hA hK hZ hP hS hl
  have hG : ∀ w ∈ G, w.before _ s = true := fun w hw => hts w (List.mem_cons_of_mem _ hw)
  have hown : s.vm.findClass R_MD = some m.cls := hown
  have hl : lv_has ls 3 [(0, .ref md), (1, .int (nI n))] := hl
  have hR0 := hR
  obtain ⟨⟨a1, a2, a3, a4, a5, a6, a7, a8⟩, a9, ⟨a10, a11, a12⟩, a14, ⟨a15, a16⟩, ⟨a21, a22⟩, ⟨a24, a25⟩, a26, a27, a28⟩ := hR
  have i1 := hI.bs10
  have i2 := hI.q40
  have i3 := hI.ca6
  have km_1 : h md = some (.inr (7, [.int (sc 0), .int (sc 1), .int (sc 2), .int (sc 3), .int (sc 4), .int (sc 5), .int (sc 6), .int (sc 7), .int (sc 8), .ref (ad 9), .int (sc 10), .ref (ad 11), .ref (ad 12), .ref (ad 13), .int (sc 14), .int (sc 15), .ref (ad 16), .ref (ad 17), .ref (ad 18), .ref (ad 19), .ref (ad 20), .int (sc 21), .ref (ad 22), .ref (ad 23), .int (sc 24), .int (sc 25), .int (sc 26), .int (sc 27), .int (sc 28)])) := hM.1
  refine lv_aload_n hx hb d_MD_buffer_0 rfl (lv_at hl 0 rfl) ?_
  refine lv_iload_n hx hb d_MD_buffer_1 rfl (lv_at hl 1 rfl) ?_
  refine fh_callS (y := y_MD_isBlock) (bytes := b_MD_isBlock) (maxL := 1) (ret := (some .boolean)) (index := 131) (As := [.int (nI n)]) (rest := [.ref md]) ⟨hx, hb, hml, hown, hG⟩ (c_MD_isBlock l E h (nI n)) ⟨callB_of 1 hG (gB gm772) rfl rfl rfl (hG _ gm8) (hG _ gm770) hdy_MD_isBlock ⟨Nat.le_of_ble_eq_true rfl, Nat.le_of_ble_eq_true rfl⟩, hG _ gm771⟩ hK hZ hP hS hA rfl hl.1 rfl (Nat.le_of_ble_eq_true rfl) d_MD_buffer_2 ⟨Nat.le_of_ble_eq_true rfl, Nat.le_of_ble_eq_true rfl⟩ (fun r h1 H locs hq9 hP hS => ?_)
  obtain ⟨rfl, e9⟩ := hq9
  rw [e9] at hP
  refine W.eq (g2 := F0 m 5 ls [.int (if (nI n) < 0 ∨ (256 : Int32) ≤ (nI n) then 0 else 1), .ref md]) rfl ?_
  refine W.eq (g2 := F0 m 5 ls [.int 1, .ref md]) (by rw [if_neg (fun z => z.elim (nI_pos (by omega)) (nI_ge (b := 256) hn (by decide)))]) ?_
  refine lv_if_eq (tgt := 12) hx hb d_MD_buffer_5 (by decide) (fun c_2 => ?_) (fun c_2 => ?_)
  · skip
    exact absurd c_2 (by decide)
  · skip
    refine lv_iconst (v := 0) hx hb d_MD_buffer_8 (by decide) ?_
    refine lv_goto (tgt := 13) hx hb d_MD_buffer_9 (by decide) ?_
    refine fh_put hx hb hG C_MD iG_MD hown hK hP hS km_1 0 (by decide) gm673 rfl (v := .int 0) rfl rfl (Nat.le_of_ble_eq_true rfl) d_MD_buffer_13 (fun H locs hP hS => ?_)
    obtain ⟨h_3, eh_4⟩ : ∃ z : fh_H, z = va_up h md (some (.inr (7, [.int 0, .int (sc 1), .int (sc 2), .int (sc 3), .int (sc 4), .int (sc 5), .int (sc 6), .int (sc 7), .int (sc 8), .ref (ad 9), .int (sc 10), .ref (ad 11), .ref (ad 12), .ref (ad 13), .int (sc 14), .int (sc 15), .ref (ad 16), .ref (ad 17), .ref (ad 18), .ref (ad 19), .ref (ad 20), .int (sc 21), .ref (ad 22), .ref (ad 23), .int (sc 24), .int (sc 25), .int (sc 26), .int (sc 27), .int (sc 28)]))) := ⟨_, rfl⟩
    have hP : fh_P E.1 vwCl A h_3 H := by rw [eh_4]; exact hP
    obtain ⟨sc_5, es_6⟩ : ∃ z : Nat → Int32, z = upd sc 0 (0) := ⟨_, rfl⟩
    have m_7 : MDs E h_3 md ad sc_5 ar := by rw [es_6]; exact hM.setS (by rw [eh_4]; rfl)
    have K_8 : KM h h_3 md ad := (KM.rfl).trans (KM.upS eh_4)
    have km_9 : h_3 md = some (.inr (7, [.int (sc_5 0), .int (sc_5 1), .int (sc_5 2), .int (sc_5 3), .int (sc_5 4), .int (sc_5 5), .int (sc_5 6), .int (sc_5 7), .int (sc_5 8), .ref (ad 9), .int (sc_5 10), .ref (ad 11), .ref (ad 12), .ref (ad 13), .int (sc_5 14), .int (sc_5 15), .ref (ad 16), .ref (ad 17), .ref (ad 18), .ref (ad 19), .ref (ad 20), .int (sc_5 21), .ref (ad 22), .ref (ad 23), .int (sc_5 24), .int (sc_5 25), .int (sc_5 26), .int (sc_5 27), .int (sc_5 28)])) := m_7.1
    refine lv_aload_n hx hb d_MD_buffer_16 rfl (lv_at hl 0 rfl) ?_
    refine fh_get hx hb hG C_MD iG_MD hown hK hP km_9 0 (by decide) gm673 rfl d_MD_buffer_17 ?_
    rw [show sc_5 0 = 0 by rw [es_6, upd_eq]]
    have hR1 : RM sc_5 ar S := by rw [es_6]; exact hR0.code
    refine lv_if_le (tgt := 25) hx hb d_MD_buffer_20 (by decide) (fun c_10 => ?_) (fun c_10 => ?_)
    · skip
      have km_11 : h_3 md = some (.inr (7, [.int (sc_5 0), .int (sc_5 1), .int (sc_5 2), .int (sc_5 3), .int (sc_5 4), .int (sc_5 5), .int (sc_5 6), .int (sc_5 7), .int (sc_5 8), .ref (ad 9), .int (sc_5 10), .ref (ad 11), .ref (ad 12), .ref (ad 13), .int (sc_5 14), .int (sc_5 15), .ref (ad 16), .ref (ad 17), .ref (ad 18), .ref (ad 19), .ref (ad 20), .int (sc_5 21), .ref (ad 22), .ref (ad 23), .int (sc_5 24), .int (sc_5 25), .int (sc_5 26), .int (sc_5 27), .int (sc_5 28)])) := m_7.1
      have ka_12 : h_3 (ad 13) = some (.inl (fh_cZ E, 11, .inl (ar 13))) := m_7.2.1 13 rfl
      refine lv_aload_n hx hb d_MD_buffer_25 rfl (lv_at hl 0 rfl) ?_
      refine lv_iload_n hx hb d_MD_buffer_26 rfl (lv_at hl 1 rfl) ?_
      refine fh_callV (C := R_MD) (y := y_MD_bufferOf) (bytes := b_MD_bufferOf) (maxL := 4) (ret := (some .int)) (index := 134) (As := [.int (nI n)]) (rest := []) ⟨hx, hb, hml, hown, hG⟩ (c_MD_bufferOf l E h_3 md ad sc_5 ar m_7 (nI n) S.bs.length (by rw [es_6, upd_ne (by decide)]; exact a10) (by omega)) (cwV 1 hG (gV gm773 gm775 gs_MD_bufferOf gm8 gm776) rfl rfl rfl ⟨rfl, hdy_MD_bufferOf⟩ ⟨Nat.le_of_ble_eq_true rfl, Nat.le_of_ble_eq_true rfl⟩) C_MD.1 km_11 hK hZ hP hS hA rfl hl.1 rfl (Nat.le_of_ble_eq_true rfl) d_MD_buffer_27 ⟨Nat.le_of_ble_eq_true rfl, Nat.le_of_ble_eq_true rfl⟩ (fun r h1 H locs hq9 hP hS => ?_)
      obtain ⟨rfl, e9⟩ := hq9
      rw [e9] at hP
      refine W.eq (g2 := F0 m 30 ls [.int (lastI (ar 11) (nI n) S.bs.length)]) rfl ?_
      rcases lastI_bf (S := S) (b := nI n) a11 hI.bsnd with ⟨hb9, e9⟩ | ⟨j, c9, hj, hc9, hb9, e9⟩
      · skip
        refine W.eq (g2 := F0 m 30 ls [.int (-1)]) (by rw [e9]) ?_
        refine lv_istore_n (lv' := [(2, .int (-1)), (0, .ref md), (1, .int (nI n))]) hx hb d_MD_buffer_30 rfl hl (by decide) rfl (fun ls hl => ?_)
        refine lv_iload_n hx hb d_MD_buffer_31 rfl (lv_at hl 0 rfl) ?_
        refine lv_if_ge (tgt := 39) hx hb d_MD_buffer_32 (by decide) (fun c_13 => ?_) (fun c_13 => ?_)
        · skip
          exact absurd c_13 (by decide)
        · skip
          refine lv_iconst (v := 0) hx hb d_MD_buffer_35 (by decide) ?_
          refine lv_goto (tgt := 53) hx hb d_MD_buffer_36 (by decide) ?_
          exact fh_iret hx hb hr hlocks (Nat.le_of_ble_eq_true rfl) (Nat.le_of_ble_eq_true rfl) hP hS ⟨by rw [hb9], sc_5, ar, m_7, hR1, by rw [es_6, upd_eq], K_8⟩ d_MD_buffer_53
      · skip
        refine W.eq (g2 := F0 m 30 ls [.int (nI j)]) (by rw [e9]) ?_
        refine lv_istore_n (lv' := [(2, .int (nI j)), (0, .ref md), (1, .int (nI n))]) hx hb d_MD_buffer_30 rfl hl (by decide) rfl (fun ls hl => ?_)
        refine lv_iload_n hx hb d_MD_buffer_31 rfl (lv_at hl 0 rfl) ?_
        have hjl := (List.getElem?_eq_some_iff.mp hj).1
        obtain ⟨g1, g2, g3⟩ := a11 j c9 hj
        refine lv_if_ge (tgt := 39) hx hb d_MD_buffer_32 (by decide) (fun c_14 => ?_) (fun c_14 => ?_)
        · skip
          refine lv_aload_n hx hb d_MD_buffer_39 rfl (lv_at hl 1 rfl) ?_
          refine fh_get hx hb hG C_MD iG_MD hown hK hP km_11 13 (by decide) gm686 rfl d_MD_buffer_40 ?_
          refine lv_iload_n hx hb d_MD_buffer_43 rfl (lv_at hl 0 rfl) ?_
          refine fh_zalK hx hb hK hP 3 ka_12 rfl (k := j) (by omega) (by decide) d_MD_buffer_44 ?_
          rw [g3]
          refine lv_if_eq (tgt := 52) hx hb d_MD_buffer_45 (by decide) (fun c_15 => ?_) (fun c_15 => ?_)
          · skip
            refine lv_iconst (v := 1) hx hb d_MD_buffer_52 (by decide) ?_
            exact fh_iret hx hb hr hlocks (Nat.le_of_ble_eq_true rfl) (Nat.le_of_ble_eq_true rfl) hP hS ⟨by rw [hb9]; simp only []; rw [if_pos c_15], sc_5, ar, m_7, hR1, by rw [es_6, upd_eq], K_8⟩ d_MD_buffer_53
          · skip
            refine lv_iconst (v := 2) hx hb d_MD_buffer_48 (by decide) ?_
            refine lv_goto (tgt := 53) hx hb d_MD_buffer_49 (by decide) ?_
            exact fh_iret hx hb hr hlocks (Nat.le_of_ble_eq_true rfl) (Nat.le_of_ble_eq_true rfl) hP hS ⟨by rw [hb9]; simp only []; rw [if_neg c_15], sc_5, ar, m_7, hR1, by rw [es_6, upd_eq], K_8⟩ d_MD_buffer_53
        · skip
          exact absurd (nI_pos' (by omega)) c_14
    · skip
      exact absurd (show (0 : Int32) ≤ 0 by decide) c_10

set_option maxHeartbeats 800000 in
set_option maxRecDepth 100000 in
theorem c_MD_used (l : Launch) (E : fh_E) (h : fh_H) (md : Nat) (ad : Nat → Nat) (sc : Nat → Int32) (ar : Nat → Nat → Int32) (hM : MDs E h md ad sc ar) (S : mS) (t : Nat) (hR : RM sc ar S) (hI : Inv S t) (i : Int32) : fh_Met l y_MD_used w_MD_used ({ frames := 0, cells := 0, slots := 0, locals := 0 }) E [.ref md, .int i] h (fun r h1 => r = some (.int (match atI S.bs i with | some c => c.1 | none => -1)) ∧ ∃ sc1 ar1, MDs E h1 md ad sc1 ar1 ∧ RM sc1 ar1 (S) ∧ sc1 0 = 0 ∧ KM h h1 md ad) 0 0 := by
  refine fh_ofW (cc := b_MD_used) (maxL := 2) (ret := (some .int)) (by decide) rfl (Nat.le_of_ble_eq_true rfl) ?_
  intro p e s m below meth c A ls hx hb hr hml hown hts hlocks hname hnoh hadm hA hK hZ hP hS hl
  have hG : ∀ w ∈ G, w.before _ s = true := fun w hw => hts w (List.mem_cons_of_mem _ hw)
  have hown : s.vm.findClass R_MD = some m.cls := hown
  have hl : lv_has ls 2 [(0, .ref md), (1, .int i)] := hl
  have hR0 := hR
  obtain ⟨⟨a1, a2, a3, a4, a5, a6, a7, a8⟩, a9, ⟨a10, a11, a12⟩, a14, ⟨a15, a16⟩, ⟨a21, a22⟩, ⟨a24, a25⟩, a26, a27, a28⟩ := hR
  have i1 := hI.bs10
  have i2 := hI.q40
  have i3 := hI.ca6
  have km_1 : h md = some (.inr (7, [.int (sc 0), .int (sc 1), .int (sc 2), .int (sc 3), .int (sc 4), .int (sc 5), .int (sc 6), .int (sc 7), .int (sc 8), .ref (ad 9), .int (sc 10), .ref (ad 11), .ref (ad 12), .ref (ad 13), .int (sc 14), .int (sc 15), .ref (ad 16), .ref (ad 17), .ref (ad 18), .ref (ad 19), .ref (ad 20), .int (sc 21), .ref (ad 22), .ref (ad 23), .int (sc 24), .int (sc 25), .int (sc 26), .int (sc 27), .int (sc 28)])) := hM.1
  refine lv_aload_n hx hb d_MD_used_0 rfl (lv_at hl 0 rfl) ?_
  refine lv_iconst (v := 0) hx hb d_MD_used_1 (by decide) ?_
  refine fh_put hx hb hG C_MD iG_MD hown hK hP hS km_1 0 (by decide) gm673 rfl (v := .int 0) rfl rfl (Nat.le_of_ble_eq_true rfl) d_MD_used_2 (fun H locs hP hS => ?_)
  obtain ⟨h_2, eh_3⟩ : ∃ z : fh_H, z = va_up h md (some (.inr (7, [.int 0, .int (sc 1), .int (sc 2), .int (sc 3), .int (sc 4), .int (sc 5), .int (sc 6), .int (sc 7), .int (sc 8), .ref (ad 9), .int (sc 10), .ref (ad 11), .ref (ad 12), .ref (ad 13), .int (sc 14), .int (sc 15), .ref (ad 16), .ref (ad 17), .ref (ad 18), .ref (ad 19), .ref (ad 20), .int (sc 21), .ref (ad 22), .ref (ad 23), .int (sc 24), .int (sc 25), .int (sc 26), .int (sc 27), .int (sc 28)]))) := ⟨_, rfl⟩
  have hP : fh_P E.1 vwCl A h_2 H := by rw [eh_3]; exact hP
  obtain ⟨sc_4, es_5⟩ : ∃ z : Nat → Int32, z = upd sc 0 (0) := ⟨_, rfl⟩
  have m_6 : MDs E h_2 md ad sc_4 ar := by rw [es_5]; exact hM.setS (by rw [eh_3]; rfl)
  have K_7 : KM h h_2 md ad := (KM.rfl).trans (KM.upS eh_3)
  have km_8 : h_2 md = some (.inr (7, [.int (sc_4 0), .int (sc_4 1), .int (sc_4 2), .int (sc_4 3), .int (sc_4 4), .int (sc_4 5), .int (sc_4 6), .int (sc_4 7), .int (sc_4 8), .ref (ad 9), .int (sc_4 10), .ref (ad 11), .ref (ad 12), .ref (ad 13), .int (sc_4 14), .int (sc_4 15), .ref (ad 16), .ref (ad 17), .ref (ad 18), .ref (ad 19), .ref (ad 20), .int (sc_4 21), .ref (ad 22), .ref (ad 23), .int (sc_4 24), .int (sc_4 25), .int (sc_4 26), .int (sc_4 27), .int (sc_4 28)])) := m_6.1
  have hR1 : RM sc_4 ar S := by rw [es_5]; exact hR0.code
  have c0 : sc_4 0 = 0 := by rw [es_5, upd_eq]
  have km_9 : h_2 md = some (.inr (7, [.int (sc_4 0), .int (sc_4 1), .int (sc_4 2), .int (sc_4 3), .int (sc_4 4), .int (sc_4 5), .int (sc_4 6), .int (sc_4 7), .int (sc_4 8), .ref (ad 9), .int (sc_4 10), .ref (ad 11), .ref (ad 12), .ref (ad 13), .int (sc_4 14), .int (sc_4 15), .ref (ad 16), .ref (ad 17), .ref (ad 18), .ref (ad 19), .ref (ad 20), .int (sc_4 21), .ref (ad 22), .ref (ad 23), .int (sc_4 24), .int (sc_4 25), .int (sc_4 26), .int (sc_4 27), .int (sc_4 28)])) := m_6.1
  have ka_10 : h_2 (ad 11) = some (.inl (fh_cI E, 11, .inl (ar 11))) := m_6.2.1 11 rfl
  refine lv_iload_n hx hb d_MD_used_5 rfl (lv_at hl 1 rfl) ?_
  refine lv_if_lt (tgt := 17) hx hb d_MD_used_6 (by decide) (fun c_11 => ?_) (fun c_11 => ?_)
  · skip
    refine lv_iconst (v := (-1)) hx hb d_MD_used_17 (by decide) ?_
    refine lv_goto (tgt := 27) hx hb d_MD_used_18 (by decide) ?_
    exact fh_iret hx hb hr hlocks (Nat.le_of_ble_eq_true rfl) (Nat.le_of_ble_eq_true rfl) hP hS ⟨by unfold atI; rw [if_pos c_11], sc_4, ar, m_6, hR1, c0, K_7⟩ d_MD_used_27
  · skip
    obtain ⟨j, hj31, rfl⟩ := nI_of c_11
    refine lv_iload_n hx hb d_MD_used_9 rfl (lv_at hl 1 rfl) ?_
    refine lv_aload_n hx hb d_MD_used_10 rfl (lv_at hl 0 rfl) ?_
    refine fh_get hx hb hG C_MD iG_MD hown hK hP km_9 10 (by decide) gm683 rfl d_MD_used_11 ?_
    rw [show sc_4 10 = nI S.bs.length by rw [es_5, upd_ne (by decide)]; exact a10]
    refine lv_icmp_lt (tgt := 21) hx hb d_MD_used_14 (by decide) (fun c_12 => ?_) (fun c_12 => ?_)
    · skip
      have hjl : j < S.bs.length := (nI_ltI hj31 (by omega)).mp c_12
      obtain ⟨c9, hc9⟩ := mp_get hjl
      have g1 := (a11 j c9 hc9).1
      refine lv_aload_n hx hb d_MD_used_21 rfl (lv_at hl 0 rfl) ?_
      refine fh_get hx hb hG C_MD iG_MD hown hK hP km_9 11 (by decide) gm684 rfl d_MD_used_22 ?_
      refine lv_iload_n hx hb d_MD_used_25 rfl (lv_at hl 1 rfl) ?_
      refine fh_ialK hx hb hK hP 0 ka_10 rfl (k := j) (by omega) (by decide) d_MD_used_26 ?_
      rw [g1]
      exact fh_iret hx hb hr hlocks (Nat.le_of_ble_eq_true rfl) (Nat.le_of_ble_eq_true rfl) hP hS ⟨by rw [atI_n hj31, hc9], sc_4, ar, m_6, hR1, c0, K_7⟩ d_MD_used_27
    · skip
      refine lv_iconst (v := (-1)) hx hb d_MD_used_17 (by decide) ?_
      refine lv_goto (tgt := 27) hx hb d_MD_used_18 (by decide) ?_
      exact fh_iret hx hb hr hlocks (Nat.le_of_ble_eq_true rfl) (Nat.le_of_ble_eq_true rfl) hP hS ⟨by rw [atI_n hj31, List.getElem?_eq_none (Nat.le_of_not_lt (fun z => c_12 (nI_lt z (by omega))))], sc_4, ar, m_6, hR1, c0, K_7⟩ d_MD_used_27

set_option maxHeartbeats 800000 in
set_option maxRecDepth 100000 in
theorem c_MD_queued (l : Launch) (E : fh_E) (h : fh_H) (md : Nat) (ad : Nat → Nat) (sc : Nat → Int32) (ar : Nat → Nat → Int32) (hM : MDs E h md ad sc ar) (S : mS) (t : Nat) (hR : RM sc ar S) (hI : Inv S t) (i : Int32) : fh_Met l y_MD_queued w_MD_queued ({ frames := 0, cells := 0, slots := 0, locals := 0 }) E [.ref md, .int i] h (fun r h1 => r = some (.int (match atI S.q i with | some c => c.1 | none => -1)) ∧ ∃ sc1 ar1, MDs E h1 md ad sc1 ar1 ∧ RM sc1 ar1 (S) ∧ sc1 0 = 0 ∧ KM h h1 md ad) 0 0 := by
  refine fh_ofW (cc := b_MD_queued) (maxL := 2) (ret := (some .int)) (by decide) rfl (Nat.le_of_ble_eq_true rfl) ?_
  intro p e s m below meth c A ls hx hb hr hml hown hts hlocks hname hnoh hadm hA hK hZ hP hS hl
  have hG : ∀ w ∈ G, w.before _ s = true := fun w hw => hts w (List.mem_cons_of_mem _ hw)
  have hown : s.vm.findClass R_MD = some m.cls := hown
  have hl : lv_has ls 2 [(0, .ref md), (1, .int i)] := hl
  have hR0 := hR
  obtain ⟨⟨a1, a2, a3, a4, a5, a6, a7, a8⟩, a9, ⟨a10, a11, a12⟩, a14, ⟨a15, a16⟩, ⟨a21, a22⟩, ⟨a24, a25⟩, a26, a27, a28⟩ := hR
  have i1 := hI.bs10
  have i2 := hI.q40
  have i3 := hI.ca6
  have km_1 : h md = some (.inr (7, [.int (sc 0), .int (sc 1), .int (sc 2), .int (sc 3), .int (sc 4), .int (sc 5), .int (sc 6), .int (sc 7), .int (sc 8), .ref (ad 9), .int (sc 10), .ref (ad 11), .ref (ad 12), .ref (ad 13), .int (sc 14), .int (sc 15), .ref (ad 16), .ref (ad 17), .ref (ad 18), .ref (ad 19), .ref (ad 20), .int (sc 21), .ref (ad 22), .ref (ad 23), .int (sc 24), .int (sc 25), .int (sc 26), .int (sc 27), .int (sc 28)])) := hM.1
  refine lv_aload_n hx hb d_MD_queued_0 rfl (lv_at hl 0 rfl) ?_
  refine lv_iconst (v := 0) hx hb d_MD_queued_1 (by decide) ?_
  refine fh_put hx hb hG C_MD iG_MD hown hK hP hS km_1 0 (by decide) gm673 rfl (v := .int 0) rfl rfl (Nat.le_of_ble_eq_true rfl) d_MD_queued_2 (fun H locs hP hS => ?_)
  obtain ⟨h_2, eh_3⟩ : ∃ z : fh_H, z = va_up h md (some (.inr (7, [.int 0, .int (sc 1), .int (sc 2), .int (sc 3), .int (sc 4), .int (sc 5), .int (sc 6), .int (sc 7), .int (sc 8), .ref (ad 9), .int (sc 10), .ref (ad 11), .ref (ad 12), .ref (ad 13), .int (sc 14), .int (sc 15), .ref (ad 16), .ref (ad 17), .ref (ad 18), .ref (ad 19), .ref (ad 20), .int (sc 21), .ref (ad 22), .ref (ad 23), .int (sc 24), .int (sc 25), .int (sc 26), .int (sc 27), .int (sc 28)]))) := ⟨_, rfl⟩
  have hP : fh_P E.1 vwCl A h_2 H := by rw [eh_3]; exact hP
  obtain ⟨sc_4, es_5⟩ : ∃ z : Nat → Int32, z = upd sc 0 (0) := ⟨_, rfl⟩
  have m_6 : MDs E h_2 md ad sc_4 ar := by rw [es_5]; exact hM.setS (by rw [eh_3]; rfl)
  have K_7 : KM h h_2 md ad := (KM.rfl).trans (KM.upS eh_3)
  have km_8 : h_2 md = some (.inr (7, [.int (sc_4 0), .int (sc_4 1), .int (sc_4 2), .int (sc_4 3), .int (sc_4 4), .int (sc_4 5), .int (sc_4 6), .int (sc_4 7), .int (sc_4 8), .ref (ad 9), .int (sc_4 10), .ref (ad 11), .ref (ad 12), .ref (ad 13), .int (sc_4 14), .int (sc_4 15), .ref (ad 16), .ref (ad 17), .ref (ad 18), .ref (ad 19), .ref (ad 20), .int (sc_4 21), .ref (ad 22), .ref (ad 23), .int (sc_4 24), .int (sc_4 25), .int (sc_4 26), .int (sc_4 27), .int (sc_4 28)])) := m_6.1
  have hR1 : RM sc_4 ar S := by rw [es_5]; exact hR0.code
  have c0 : sc_4 0 = 0 := by rw [es_5, upd_eq]
  have km_9 : h_2 md = some (.inr (7, [.int (sc_4 0), .int (sc_4 1), .int (sc_4 2), .int (sc_4 3), .int (sc_4 4), .int (sc_4 5), .int (sc_4 6), .int (sc_4 7), .int (sc_4 8), .ref (ad 9), .int (sc_4 10), .ref (ad 11), .ref (ad 12), .ref (ad 13), .int (sc_4 14), .int (sc_4 15), .ref (ad 16), .ref (ad 17), .ref (ad 18), .ref (ad 19), .ref (ad 20), .int (sc_4 21), .ref (ad 22), .ref (ad 23), .int (sc_4 24), .int (sc_4 25), .int (sc_4 26), .int (sc_4 27), .int (sc_4 28)])) := m_6.1
  have ka_10 : h_2 (ad 16) = some (.inl (fh_cI E, 41, .inl (ar 16))) := m_6.2.1 16 rfl
  refine lv_iload_n hx hb d_MD_queued_5 rfl (lv_at hl 1 rfl) ?_
  refine lv_if_lt (tgt := 17) hx hb d_MD_queued_6 (by decide) (fun c_11 => ?_) (fun c_11 => ?_)
  · skip
    refine lv_iconst (v := (-1)) hx hb d_MD_queued_17 (by decide) ?_
    refine lv_goto (tgt := 27) hx hb d_MD_queued_18 (by decide) ?_
    exact fh_iret hx hb hr hlocks (Nat.le_of_ble_eq_true rfl) (Nat.le_of_ble_eq_true rfl) hP hS ⟨by unfold atI; rw [if_pos c_11], sc_4, ar, m_6, hR1, c0, K_7⟩ d_MD_queued_27
  · skip
    obtain ⟨j, hj31, rfl⟩ := nI_of c_11
    refine lv_iload_n hx hb d_MD_queued_9 rfl (lv_at hl 1 rfl) ?_
    refine lv_aload_n hx hb d_MD_queued_10 rfl (lv_at hl 0 rfl) ?_
    refine fh_get hx hb hG C_MD iG_MD hown hK hP km_9 15 (by decide) gm688 rfl d_MD_queued_11 ?_
    rw [show sc_4 15 = nI S.q.length by rw [es_5, upd_ne (by decide)]; exact a15]
    refine lv_icmp_lt (tgt := 21) hx hb d_MD_queued_14 (by decide) (fun c_12 => ?_) (fun c_12 => ?_)
    · skip
      have hjl : j < S.q.length := (nI_ltI hj31 (by omega)).mp c_12
      obtain ⟨c9, hc9⟩ := mp_get hjl
      have g1 := (a16 j c9 hc9).1
      refine lv_aload_n hx hb d_MD_queued_21 rfl (lv_at hl 0 rfl) ?_
      refine fh_get hx hb hG C_MD iG_MD hown hK hP km_9 16 (by decide) gm689 rfl d_MD_queued_22 ?_
      refine lv_iload_n hx hb d_MD_queued_25 rfl (lv_at hl 1 rfl) ?_
      refine fh_ialK hx hb hK hP 0 ka_10 rfl (k := j) (by omega) (by decide) d_MD_queued_26 ?_
      rw [g1]
      exact fh_iret hx hb hr hlocks (Nat.le_of_ble_eq_true rfl) (Nat.le_of_ble_eq_true rfl) hP hS ⟨by rw [atI_n hj31, hc9], sc_4, ar, m_6, hR1, c0, K_7⟩ d_MD_queued_27
    · skip
      refine lv_iconst (v := (-1)) hx hb d_MD_queued_17 (by decide) ?_
      refine lv_goto (tgt := 27) hx hb d_MD_queued_18 (by decide) ?_
      exact fh_iret hx hb hr hlocks (Nat.le_of_ble_eq_true rfl) (Nat.le_of_ble_eq_true rfl) hP hS ⟨by rw [atI_n hj31, List.getElem?_eq_none (Nat.le_of_not_lt (fun z => c_12 (nI_lt z (by omega))))], sc_4, ar, m_6, hR1, c0, K_7⟩ d_MD_queued_27

set_option maxHeartbeats 800000 in
set_option maxRecDepth 100000 in
theorem c_MD_request (l : Launch) (E : fh_E) (h : fh_H) (md : Nat) (ad : Nat → Nat) (sc : Nat → Int32) (ar : Nat → Nat → Int32) (hM : MDs E h md ad sc ar) (S : mS) (t : Nat) (hR : RM sc ar S) (hI : Inv S t) (n w : Int32) : fh_Met l y_MD_request w_MD_request ({ frames := 0, cells := 0, slots := 0, locals := 0 }) E [.ref md, .int n, .int w] h (fun r h1 => r = some (.int (match lvM S n with | some r => rqM r w | none => -1)) ∧ ∃ sc1 ar1, MDs E h1 md ad sc1 ar1 ∧ RM sc1 ar1 (S) ∧ sc1 0 = 0 ∧ KM h h1 md ad) 0 0 := by
  refine fh_ofW (cc := b_MD_request) (maxL := 5) (ret := (some .int)) (by decide) rfl (Nat.le_of_ble_eq_true rfl) ?_
  intro p e s m below meth c A ls hx hb hr hml hown hts hlocks hname hnoh hadm hA hK hZ hP hS hl
  have hG : ∀ w ∈ G, w.before _ s = true := fun w hw => hts w (List.mem_cons_of_mem _ hw)
  have hown : s.vm.findClass R_MD = some m.cls := hown
  have hl : lv_has ls 5 [(0, .ref md), (1, .int n), (2, .int w)] := hl
  have hR0 := hR
  obtain ⟨⟨a1, a2, a3, a4, a5, a6, a7, a8⟩, a9, ⟨a10, a11, a12⟩, a14, ⟨a15, a16⟩, ⟨a21, a22⟩, ⟨a24, a25⟩, a26, a27, a28⟩ := hR
  have i1 := hI.bs10
  have i2 := hI.q40
  have i3 := hI.ca6
  have km_1 : h md = some (.inr (7, [.int (sc 0), .int (sc 1), .int (sc 2), .int (sc 3), .int (sc 4), .int (sc 5), .int (sc 6), .int (sc 7), .int (sc 8), .ref (ad 9), .int (sc 10), .ref (ad 11), .ref (ad 12), .ref (ad 13), .int (sc 14), .int (sc 15), .ref (ad 16), .ref (ad 17), .ref (ad 18), .ref (ad 19), .ref (ad 20), .int (sc 21), .ref (ad 22), .ref (ad 23), .int (sc 24), .int (sc 25), .int (sc 26), .int (sc 27), .int (sc 28)])) := hM.1
  refine lv_aload_n hx hb d_MD_request_0 rfl (lv_at hl 0 rfl) ?_
  refine lv_iconst (v := 0) hx hb d_MD_request_1 (by decide) ?_
  refine fh_put hx hb hG C_MD iG_MD hown hK hP hS km_1 0 (by decide) gm673 rfl (v := .int 0) rfl rfl (Nat.le_of_ble_eq_true rfl) d_MD_request_2 (fun H locs hP hS => ?_)
  obtain ⟨h_2, eh_3⟩ : ∃ z : fh_H, z = va_up h md (some (.inr (7, [.int 0, .int (sc 1), .int (sc 2), .int (sc 3), .int (sc 4), .int (sc 5), .int (sc 6), .int (sc 7), .int (sc 8), .ref (ad 9), .int (sc 10), .ref (ad 11), .ref (ad 12), .ref (ad 13), .int (sc 14), .int (sc 15), .ref (ad 16), .ref (ad 17), .ref (ad 18), .ref (ad 19), .ref (ad 20), .int (sc 21), .ref (ad 22), .ref (ad 23), .int (sc 24), .int (sc 25), .int (sc 26), .int (sc 27), .int (sc 28)]))) := ⟨_, rfl⟩
  have hP : fh_P E.1 vwCl A h_2 H := by rw [eh_3]; exact hP
  obtain ⟨sc_4, es_5⟩ : ∃ z : Nat → Int32, z = upd sc 0 (0) := ⟨_, rfl⟩
  have m_6 : MDs E h_2 md ad sc_4 ar := by rw [es_5]; exact hM.setS (by rw [eh_3]; rfl)
  have K_7 : KM h h_2 md ad := (KM.rfl).trans (KM.upS eh_3)
  have km_8 : h_2 md = some (.inr (7, [.int (sc_4 0), .int (sc_4 1), .int (sc_4 2), .int (sc_4 3), .int (sc_4 4), .int (sc_4 5), .int (sc_4 6), .int (sc_4 7), .int (sc_4 8), .ref (ad 9), .int (sc_4 10), .ref (ad 11), .ref (ad 12), .ref (ad 13), .int (sc_4 14), .int (sc_4 15), .ref (ad 16), .ref (ad 17), .ref (ad 18), .ref (ad 19), .ref (ad 20), .int (sc_4 21), .ref (ad 22), .ref (ad 23), .int (sc_4 24), .int (sc_4 25), .int (sc_4 26), .int (sc_4 27), .int (sc_4 28)])) := m_6.1
  have hR1 : RM sc_4 ar S := by rw [es_5]; exact hR0.code
  have c0 : sc_4 0 = 0 := by rw [es_5, upd_eq]
  have km_9 : h_2 md = some (.inr (7, [.int (sc_4 0), .int (sc_4 1), .int (sc_4 2), .int (sc_4 3), .int (sc_4 4), .int (sc_4 5), .int (sc_4 6), .int (sc_4 7), .int (sc_4 8), .ref (ad 9), .int (sc_4 10), .ref (ad 11), .ref (ad 12), .ref (ad 13), .int (sc_4 14), .int (sc_4 15), .ref (ad 16), .ref (ad 17), .ref (ad 18), .ref (ad 19), .ref (ad 20), .int (sc_4 21), .ref (ad 22), .ref (ad 23), .int (sc_4 24), .int (sc_4 25), .int (sc_4 26), .int (sc_4 27), .int (sc_4 28)])) := m_6.1
  have ka_10 : h_2 (ad 16) = some (.inl (fh_cI E, 41, .inl (ar 16))) := m_6.2.1 16 rfl
  have ka_11 : h_2 (ad 17) = some (.inl (fh_cI E, 41, .inl (ar 17))) := m_6.2.1 17 rfl
  have ka_12 : h_2 (ad 18) = some (.inl (fh_cI E, 41, .inl (ar 18))) := m_6.2.1 18 rfl
  have ka_13 : h_2 (ad 19) = some (.inl (fh_cI E, 41, .inl (ar 19))) := m_6.2.1 19 rfl
  have ka_14 : h_2 (ad 20) = some (.inl (fh_cI E, 41, .inl (ar 20))) := m_6.2.1 20 rfl
  obtain ⟨v0, ev0⟩ : ∃ z : Int32, z = match S.sv with | some r => if r.1 = n then 40 else -1 | none => -1 := ⟨_, rfl⟩
  have loop : ∀ (f k : Nat) (ls : Array Slot), k + f = S.q.length → lv_has ls 5 [(4, .int (nI k)), (3, .int (lqN S.q n v0 k)), (0, .ref md), (1, .int n), (2, .int w)] → W p l e ({ frames := 0, cells := 0, slots := 0, locals := 0 }) s m ([.ref md, .int n, .int w] : List Value).toArray below meth c H locs 0 0 (MQ below (fh_Post E (fun r h1 => r = some (.int (match lvM S n with | some r => rqM r w | none => -1)) ∧ ∃ sc1 ar1, MDs E h1 md ad sc1 ar1 ∧ RM sc1 ar1 (S) ∧ sc1 0 = 0 ∧ KM h h1 md ad) A) ([.ref md, .int n, .int w] : List Value).toArray s 0 0 A) (F0 m 33 ls []) := by
    intro f
    induction f with
    | zero =>
      intro k ls hkf hl
      refine lv_iload hx hb d_MD_request_33 (lv_at hl 0 rfl) ?_
      refine lv_aload_n hx hb d_MD_request_35 rfl (lv_at hl 2 rfl) ?_
      refine fh_get hx hb hG C_MD iG_MD hown hK hP km_9 15 (by decide) gm688 rfl d_MD_request_36 ?_
      rw [show sc_4 15 = nI S.q.length by rw [es_5, upd_ne (by decide)]; exact a15]
      refine lv_icmp_ge (tgt := 66) hx hb d_MD_request_39 (by decide) (fun c_15 => ?_) (fun c_15 => ?_)
      · skip
        have hk : k = S.q.length := by omega
        subst hk
        have hlq : (lvM S n = none ∧ lqN S.q n v0 S.q.length = -1) ∨ (∃ r, lvM S n = some r ∧ S.sv = some r ∧ lqN S.q n v0 S.q.length = nI 40) ∨ ∃ j r, lvM S n = some r ∧ S.q[j]? = some r ∧ lqN S.q n v0 S.q.length = nI j := by rw [ev0]; exact lvM_lq a28
        rcases hlq with ⟨hv9, e9⟩ | ⟨r9, hv9, hs9, e9⟩ | ⟨j, r9, hv9, hs9, e9⟩
        · skip
          rw [e9] at hl
          refine lv_iload_n hx hb d_MD_request_66 rfl (lv_at hl 1 rfl) ?_
          refine lv_if_ge (tgt := 72) hx hb d_MD_request_67 (by decide) (fun c_16 => ?_) (fun c_16 => ?_)
          · skip
            exact absurd c_16 (by decide)
          · skip
            refine lv_iconst (v := (-1)) hx hb d_MD_request_70 (by decide) ?_
            exact fh_iret hx hb hr hlocks (Nat.le_of_ble_eq_true rfl) (Nat.le_of_ble_eq_true rfl) hP hS ⟨by rw [hv9], sc_4, ar, m_6, hR1, c0, K_7⟩ d_MD_request_71
        · skip
          rw [e9] at hl
          obtain ⟨b26, ⟨f1, f2, f3, f4, f5⟩, b27⟩ := a27 r9 hs9
          have hF : 40 < 41 := by decide
          have hval : r9.2.1 ≠ 1 → r9.2.2.2.2 = 0 := a28.2 r9 (by rw [hs9]; exact List.mem_cons_self)
          refine lv_iload_n hx hb d_MD_request_66 rfl (lv_at hl 1 rfl) ?_
          refine lv_if_ge (tgt := 72) hx hb d_MD_request_67 (by decide) (fun c_17 => ?_) (fun c_17 => ?_)
          · skip
            refine lv_iload_n hx hb d_MD_request_72 rfl (lv_at hl 4 rfl) ?_
            rcases sw_in (n := 4) (by decide) w with ⟨k, hk, rfl⟩ | hw
            · rcases (show k = 0 ∨ k = 1 ∨ k = 2 ∨ k = 3 by omega) with rfl | rfl | rfl | rfl
              · refine lv_tableIn (off := 31) (tgt := 104) hx hb d_MD_request_73 (by decide) (by decide) (by decide) (by decide) ?_
                refine lv_aload_n hx hb d_MD_request_104 rfl (lv_at hl 2 rfl) ?_
                refine fh_get hx hb hG C_MD iG_MD hown hK hP km_9 17 (by decide) gm690 rfl d_MD_request_105 ?_
                refine lv_iload_n hx hb d_MD_request_108 rfl (lv_at hl 1 rfl) ?_
                refine fh_ialK hx hb hK hP 0 ka_11 rfl (k := 40) (by omega) (by decide) d_MD_request_109 ?_
                rw [f2]
                exact fh_iret hx hb hr hlocks (Nat.le_of_ble_eq_true rfl) (Nat.le_of_ble_eq_true rfl) hP hS ⟨by rw [hv9]; rfl, sc_4, ar, m_6, hR1, c0, K_7⟩ d_MD_request_110
              · refine lv_tableIn (off := 38) (tgt := 111) hx hb d_MD_request_73 (by decide) (by decide) (by decide) (by decide) ?_
                refine lv_aload_n hx hb d_MD_request_111 rfl (lv_at hl 2 rfl) ?_
                refine fh_get hx hb hG C_MD iG_MD hown hK hP km_9 18 (by decide) gm691 rfl d_MD_request_112 ?_
                refine lv_iload_n hx hb d_MD_request_115 rfl (lv_at hl 1 rfl) ?_
                refine fh_ialK hx hb hK hP 0 ka_12 rfl (k := 40) (by omega) (by decide) d_MD_request_116 ?_
                rw [f3]
                exact fh_iret hx hb hr hlocks (Nat.le_of_ble_eq_true rfl) (Nat.le_of_ble_eq_true rfl) hP hS ⟨by rw [hv9]; rfl, sc_4, ar, m_6, hR1, c0, K_7⟩ d_MD_request_117
              · refine lv_tableIn (off := 45) (tgt := 118) hx hb d_MD_request_73 (by decide) (by decide) (by decide) (by decide) ?_
                refine lv_aload_n hx hb d_MD_request_118 rfl (lv_at hl 2 rfl) ?_
                refine fh_get hx hb hG C_MD iG_MD hown hK hP km_9 17 (by decide) gm690 rfl d_MD_request_119 ?_
                refine lv_iload_n hx hb d_MD_request_122 rfl (lv_at hl 1 rfl) ?_
                refine fh_ialK hx hb hK hP 0 ka_11 rfl (k := 40) (by omega) (by decide) d_MD_request_123 ?_
                rw [f2]
                refine lv_iconst (v := 1) hx hb d_MD_request_124 (by decide) ?_
                refine lv_icmp_ne (tgt := 137) hx hb d_MD_request_125 (by decide) (fun c_18 => ?_) (fun c_18 => ?_)
                · skip
                  refine lv_iconst (v := 0) hx hb d_MD_request_137 (by decide) ?_
                  exact fh_iret hx hb hr hlocks (Nat.le_of_ble_eq_true rfl) (Nat.le_of_ble_eq_true rfl) hP hS ⟨by rw [hv9, ← hval c_18]; rfl, sc_4, ar, m_6, hR1, c0, K_7⟩ d_MD_request_138
                · skip
                  refine lv_aload_n hx hb d_MD_request_128 rfl (lv_at hl 2 rfl) ?_
                  refine fh_get hx hb hG C_MD iG_MD hown hK hP km_9 19 (by decide) gm692 rfl d_MD_request_129 ?_
                  refine lv_iload_n hx hb d_MD_request_132 rfl (lv_at hl 1 rfl) ?_
                  refine fh_ialK hx hb hK hP 0 ka_13 rfl (k := 40) (by omega) (by decide) d_MD_request_133 ?_
                  rw [f5]
                  refine lv_goto (tgt := 138) hx hb d_MD_request_134 (by decide) ?_
                  exact fh_iret hx hb hr hlocks (Nat.le_of_ble_eq_true rfl) (Nat.le_of_ble_eq_true rfl) hP hS ⟨by rw [hv9]; rfl, sc_4, ar, m_6, hR1, c0, K_7⟩ d_MD_request_138
              · refine lv_tableIn (off := 66) (tgt := 139) hx hb d_MD_request_73 (by decide) (by decide) (by decide) (by decide) ?_
                refine lv_aload_n hx hb d_MD_request_139 rfl (lv_at hl 2 rfl) ?_
                refine fh_get hx hb hG C_MD iG_MD hown hK hP km_9 20 (by decide) gm693 rfl d_MD_request_140 ?_
                refine lv_iload_n hx hb d_MD_request_143 rfl (lv_at hl 1 rfl) ?_
                refine fh_ialK hx hb hK hP 0 ka_14 rfl (k := 40) (by omega) (by decide) d_MD_request_144 ?_
                rw [f4]
                exact fh_iret hx hb hr hlocks (Nat.le_of_ble_eq_true rfl) (Nat.le_of_ble_eq_true rfl) hP hS ⟨by rw [hv9]; rfl, sc_4, ar, m_6, hR1, c0, K_7⟩ d_MD_request_145
            · refine lv_tableOut (tgt := 146) hx hb d_MD_request_73 (hw.imp id (fun z => by omega)) (by decide) ?_
              refine lv_iconst (v := (-1)) hx hb d_MD_request_146 (by decide) ?_
              exact fh_iret hx hb hr hlocks (Nat.le_of_ble_eq_true rfl) (Nat.le_of_ble_eq_true rfl) hP hS ⟨by rw [hv9]; simp only []; rw [rqM_out hw], sc_4, ar, m_6, hR1, c0, K_7⟩ d_MD_request_147
          · skip
            exact absurd (nI_pos' (by omega)) c_17
        · skip
          rw [e9] at hl
          obtain ⟨f1, f2, f3, f4, f5⟩ := a16 j r9 hs9
          have hF : j < 41 := by have := (List.getElem?_eq_some_iff.mp hs9).1; omega
          have hval : r9.2.1 ≠ 1 → r9.2.2.2.2 = 0 := a28.2 r9 (List.mem_append.mpr (Or.inr (List.mem_of_getElem? hs9)))
          refine lv_iload_n hx hb d_MD_request_66 rfl (lv_at hl 1 rfl) ?_
          refine lv_if_ge (tgt := 72) hx hb d_MD_request_67 (by decide) (fun c_19 => ?_) (fun c_19 => ?_)
          · skip
            refine lv_iload_n hx hb d_MD_request_72 rfl (lv_at hl 4 rfl) ?_
            rcases sw_in (n := 4) (by decide) w with ⟨k, hk, rfl⟩ | hw
            · rcases (show k = 0 ∨ k = 1 ∨ k = 2 ∨ k = 3 by omega) with rfl | rfl | rfl | rfl
              · refine lv_tableIn (off := 31) (tgt := 104) hx hb d_MD_request_73 (by decide) (by decide) (by decide) (by decide) ?_
                refine lv_aload_n hx hb d_MD_request_104 rfl (lv_at hl 2 rfl) ?_
                refine fh_get hx hb hG C_MD iG_MD hown hK hP km_9 17 (by decide) gm690 rfl d_MD_request_105 ?_
                refine lv_iload_n hx hb d_MD_request_108 rfl (lv_at hl 1 rfl) ?_
                refine fh_ialK hx hb hK hP 0 ka_11 rfl (k := j) (by omega) (by decide) d_MD_request_109 ?_
                rw [f2]
                exact fh_iret hx hb hr hlocks (Nat.le_of_ble_eq_true rfl) (Nat.le_of_ble_eq_true rfl) hP hS ⟨by rw [hv9]; rfl, sc_4, ar, m_6, hR1, c0, K_7⟩ d_MD_request_110
              · refine lv_tableIn (off := 38) (tgt := 111) hx hb d_MD_request_73 (by decide) (by decide) (by decide) (by decide) ?_
                refine lv_aload_n hx hb d_MD_request_111 rfl (lv_at hl 2 rfl) ?_
                refine fh_get hx hb hG C_MD iG_MD hown hK hP km_9 18 (by decide) gm691 rfl d_MD_request_112 ?_
                refine lv_iload_n hx hb d_MD_request_115 rfl (lv_at hl 1 rfl) ?_
                refine fh_ialK hx hb hK hP 0 ka_12 rfl (k := j) (by omega) (by decide) d_MD_request_116 ?_
                rw [f3]
                exact fh_iret hx hb hr hlocks (Nat.le_of_ble_eq_true rfl) (Nat.le_of_ble_eq_true rfl) hP hS ⟨by rw [hv9]; rfl, sc_4, ar, m_6, hR1, c0, K_7⟩ d_MD_request_117
              · refine lv_tableIn (off := 45) (tgt := 118) hx hb d_MD_request_73 (by decide) (by decide) (by decide) (by decide) ?_
                refine lv_aload_n hx hb d_MD_request_118 rfl (lv_at hl 2 rfl) ?_
                refine fh_get hx hb hG C_MD iG_MD hown hK hP km_9 17 (by decide) gm690 rfl d_MD_request_119 ?_
                refine lv_iload_n hx hb d_MD_request_122 rfl (lv_at hl 1 rfl) ?_
                refine fh_ialK hx hb hK hP 0 ka_11 rfl (k := j) (by omega) (by decide) d_MD_request_123 ?_
                rw [f2]
                refine lv_iconst (v := 1) hx hb d_MD_request_124 (by decide) ?_
                refine lv_icmp_ne (tgt := 137) hx hb d_MD_request_125 (by decide) (fun c_20 => ?_) (fun c_20 => ?_)
                · skip
                  refine lv_iconst (v := 0) hx hb d_MD_request_137 (by decide) ?_
                  exact fh_iret hx hb hr hlocks (Nat.le_of_ble_eq_true rfl) (Nat.le_of_ble_eq_true rfl) hP hS ⟨by rw [hv9, ← hval c_20]; rfl, sc_4, ar, m_6, hR1, c0, K_7⟩ d_MD_request_138
                · skip
                  refine lv_aload_n hx hb d_MD_request_128 rfl (lv_at hl 2 rfl) ?_
                  refine fh_get hx hb hG C_MD iG_MD hown hK hP km_9 19 (by decide) gm692 rfl d_MD_request_129 ?_
                  refine lv_iload_n hx hb d_MD_request_132 rfl (lv_at hl 1 rfl) ?_
                  refine fh_ialK hx hb hK hP 0 ka_13 rfl (k := j) (by omega) (by decide) d_MD_request_133 ?_
                  rw [f5]
                  refine lv_goto (tgt := 138) hx hb d_MD_request_134 (by decide) ?_
                  exact fh_iret hx hb hr hlocks (Nat.le_of_ble_eq_true rfl) (Nat.le_of_ble_eq_true rfl) hP hS ⟨by rw [hv9]; rfl, sc_4, ar, m_6, hR1, c0, K_7⟩ d_MD_request_138
              · refine lv_tableIn (off := 66) (tgt := 139) hx hb d_MD_request_73 (by decide) (by decide) (by decide) (by decide) ?_
                refine lv_aload_n hx hb d_MD_request_139 rfl (lv_at hl 2 rfl) ?_
                refine fh_get hx hb hG C_MD iG_MD hown hK hP km_9 20 (by decide) gm693 rfl d_MD_request_140 ?_
                refine lv_iload_n hx hb d_MD_request_143 rfl (lv_at hl 1 rfl) ?_
                refine fh_ialK hx hb hK hP 0 ka_14 rfl (k := j) (by omega) (by decide) d_MD_request_144 ?_
                rw [f4]
                exact fh_iret hx hb hr hlocks (Nat.le_of_ble_eq_true rfl) (Nat.le_of_ble_eq_true rfl) hP hS ⟨by rw [hv9]; rfl, sc_4, ar, m_6, hR1, c0, K_7⟩ d_MD_request_145
            · refine lv_tableOut (tgt := 146) hx hb d_MD_request_73 (hw.imp id (fun z => by omega)) (by decide) ?_
              refine lv_iconst (v := (-1)) hx hb d_MD_request_146 (by decide) ?_
              exact fh_iret hx hb hr hlocks (Nat.le_of_ble_eq_true rfl) (Nat.le_of_ble_eq_true rfl) hP hS ⟨by rw [hv9]; simp only []; rw [rqM_out hw], sc_4, ar, m_6, hR1, c0, K_7⟩ d_MD_request_147
          · skip
            exact absurd (nI_pos' (by omega)) c_19
      · skip
        exact absurd (nI_le (by omega) (by omega)) c_15
    | succ f ih =>
      intro k ls hkf hl
      refine lv_iload hx hb d_MD_request_33 (lv_at hl 0 rfl) ?_
      refine lv_aload_n hx hb d_MD_request_35 rfl (lv_at hl 2 rfl) ?_
      refine fh_get hx hb hG C_MD iG_MD hown hK hP km_9 15 (by decide) gm688 rfl d_MD_request_36 ?_
      rw [show sc_4 15 = nI S.q.length by rw [es_5, upd_ne (by decide)]; exact a15]
      refine lv_icmp_ge (tgt := 66) hx hb d_MD_request_39 (by decide) (fun c_21 => ?_) (fun c_21 => ?_)
      · skip
        exact absurd c_21 (nI_ge (by omega) (by omega))
      · skip
        obtain ⟨r9, hr9⟩ := mp_get (xs := S.q) (i := k) (by omega)
        obtain ⟨r1, r2, r3, r4, r5⟩ := a16 k r9 hr9
        refine lv_aload_n hx hb d_MD_request_42 rfl (lv_at hl 2 rfl) ?_
        refine fh_get hx hb hG C_MD iG_MD hown hK hP km_9 16 (by decide) gm689 rfl d_MD_request_43 ?_
        refine lv_iload hx hb d_MD_request_46 (lv_at hl 0 rfl) ?_
        refine fh_ialK hx hb hK hP 0 ka_10 rfl (k := k) (by omega) (by decide) d_MD_request_48 ?_
        rw [r1]
        refine lv_iload_n hx hb d_MD_request_49 rfl (lv_at hl 3 rfl) ?_
        refine lv_icmp_ne (tgt := 58) hx hb d_MD_request_50 (by decide) (fun c_22 => ?_) (fun c_22 => ?_)
        · skip
          refine lv_iload_n hx hb d_MD_request_58 rfl (lv_at hl 1 rfl) ?_
          refine lv_istore_n (lv' := [(3, .int (lqN S.q n v0 k)), (4, .int (nI k)), (0, .ref md), (1, .int n), (2, .int w)]) hx hb d_MD_request_59 rfl hl (by decide) rfl (fun ls hl => ?_)
          refine lv_iinc (v := ((nI k)) + 1) (lv' := [(4, .int (((nI k)) + 1)), (3, .int (lqN S.q n v0 k)), (0, .ref md), (1, .int n), (2, .int w)]) hx hb d_MD_request_60 hl (k := 1) rfl rfl (by decide) rfl (fun ls hl => ?_)
          refine lv_goto (tgt := 33) hx hb d_MD_request_63 (by decide) ?_
          have e6 : lqN S.q n v0 (k + 1) = lqN S.q n v0 k := (lqN_s hr9).trans (if_neg c_22)
          exact ih (k + 1) ls (by omega) (by rw [nI_succ, e6]; exact lv_sub hl [0, 1, 2, 3, 4] rfl)
        · skip
          refine lv_iload hx hb d_MD_request_53 (lv_at hl 0 rfl) ?_
          refine lv_goto (tgt := 59) hx hb d_MD_request_55 (by decide) ?_
          refine lv_istore_n (lv' := [(3, .int (nI k)), (4, .int (nI k)), (0, .ref md), (1, .int n), (2, .int w)]) hx hb d_MD_request_59 rfl hl (by decide) rfl (fun ls hl => ?_)
          refine lv_iinc (v := ((nI k)) + 1) (lv' := [(4, .int (((nI k)) + 1)), (3, .int (nI k)), (0, .ref md), (1, .int n), (2, .int w)]) hx hb d_MD_request_60 hl (k := 1) rfl rfl (by decide) rfl (fun ls hl => ?_)
          refine lv_goto (tgt := 33) hx hb d_MD_request_63 (by decide) ?_
          have e6 : lqN S.q n v0 (k + 1) = nI k := (lqN_s hr9).trans (if_pos c_22)
          exact ih (k + 1) ls (by omega) (by rw [nI_succ, e6]; exact lv_sub hl [0, 1, 2, 3, 4] rfl)
  refine lv_aload_n hx hb d_MD_request_5 rfl (lv_at hl 0 rfl) ?_
  refine fh_get hx hb hG C_MD iG_MD hown hK hP km_9 26 (by decide) gm699 rfl d_MD_request_6 ?_
  cases hsv : S.sv with
  | none =>
    rw [hR1.2.2.2.2.2.2.2.1 hsv]
    refine lv_if_eq (tgt := 28) hx hb d_MD_request_9 (by decide) (fun c_23 => ?_) (fun c_23 => ?_)
    · skip
      refine lv_iconst (v := (-1)) hx hb d_MD_request_28 (by decide) ?_
      refine W.eq (g2 := F0 m 29 ls [.int v0]) (by rw [ev0, hsv]) ?_
      refine lv_istore_n (lv' := [(3, .int v0), (0, .ref md), (1, .int n), (2, .int w)]) hx hb d_MD_request_29 rfl hl (by decide) rfl (fun ls hl => ?_)
      refine lv_iconst (v := 0) hx hb d_MD_request_30 (by decide) ?_
      refine lv_istore (lv' := [(4, .int 0), (3, .int v0), (0, .ref md), (1, .int n), (2, .int w)]) hx hb d_MD_request_31 hl (by decide) rfl (fun ls hl => ?_)
      exact loop S.q.length 0 ls (by omega) (by rw [nI_0]; exact lv_sub hl [0, 1, 2, 3, 4] rfl)
    · skip
      exact absurd rfl c_23
  | some r9 =>
    obtain ⟨b26, h40, b27⟩ := hR1.2.2.2.2.2.2.2.2.1 r9 hsv
    rw [b26]
    refine lv_if_eq (tgt := 28) hx hb d_MD_request_9 (by decide) (fun c_24 => ?_) (fun c_24 => ?_)
    · skip
      exact absurd c_24 (by decide)
    · skip
      refine lv_aload_n hx hb d_MD_request_12 rfl (lv_at hl 0 rfl) ?_
      refine fh_get hx hb hG C_MD iG_MD hown hK hP km_9 16 (by decide) gm689 rfl d_MD_request_13 ?_
      refine lv_bipush (v := 40) hx hb d_MD_request_16 (by decide) ?_
      refine W.eq (g2 := F0 m 18 ls [.int (nI 40), .ref (ad 16)]) (rfl) ?_
      refine fh_ialK hx hb hK hP 0 ka_10 rfl (k := 40) (by omega) (by decide) d_MD_request_18 ?_
      rw [h40.1]
      refine lv_iload_n hx hb d_MD_request_19 rfl (lv_at hl 1 rfl) ?_
      refine lv_icmp_ne (tgt := 28) hx hb d_MD_request_20 (by decide) (fun c_25 => ?_) (fun c_25 => ?_)
      · skip
        refine lv_iconst (v := (-1)) hx hb d_MD_request_28 (by decide) ?_
        refine W.eq (g2 := F0 m 29 ls [.int v0]) (by rw [ev0, hsv]; simp only []; rw [if_neg c_25]) ?_
        refine lv_istore_n (lv' := [(3, .int v0), (0, .ref md), (1, .int n), (2, .int w)]) hx hb d_MD_request_29 rfl hl (by decide) rfl (fun ls hl => ?_)
        refine lv_iconst (v := 0) hx hb d_MD_request_30 (by decide) ?_
        refine lv_istore (lv' := [(4, .int 0), (3, .int v0), (0, .ref md), (1, .int n), (2, .int w)]) hx hb d_MD_request_31 hl (by decide) rfl (fun ls hl => ?_)
        exact loop S.q.length 0 ls (by omega) (by rw [nI_0]; exact lv_sub hl [0, 1, 2, 3, 4] rfl)
      · skip
        refine lv_bipush (v := 40) hx hb d_MD_request_23 (by decide) ?_
        refine lv_goto (tgt := 29) hx hb d_MD_request_25 (by decide) ?_
        refine W.eq (g2 := F0 m 29 ls [.int v0]) (by rw [ev0, hsv]; simp only []; rw [if_pos c_25]) ?_
        refine lv_istore_n (lv' := [(3, .int v0), (0, .ref md), (1, .int n), (2, .int w)]) hx hb d_MD_request_29 rfl hl (by decide) rfl (fun ls hl => ?_)
        refine lv_iconst (v := 0) hx hb d_MD_request_30 (by decide) ?_
        refine lv_istore (lv' := [(4, .int 0), (3, .int v0), (0, .ref md), (1, .int n), (2, .int w)]) hx hb d_MD_request_31 hl (by decide) rfl (fun ls hl => ?_)
        exact loop S.q.length 0 ls (by omega) (by rw [nI_0]; exact lv_sub hl [0, 1, 2, 3, 4] rfl)

set_option maxHeartbeats 800000 in
set_option maxRecDepth 100000 in
theorem c_MD_told (l : Launch) (E : fh_E) (h : fh_H) (md : Nat) (ad : Nat → Nat) (sc : Nat → Int32) (ar : Nat → Nat → Int32) (hM : MDs E h md ad sc ar) (S : mS) (t : Nat) (hR : RM sc ar S) (hI : Inv S t) (w : Int32) : fh_Met l y_MD_told w_MD_told ({ frames := 0, cells := 0, slots := 0, locals := 0 }) E [.ref md, .int w] h (fun r h1 => r = some (.int (tdM S w)) ∧ ∃ sc1 ar1, MDs E h1 md ad sc1 ar1 ∧ RM sc1 ar1 (S) ∧ sc1 0 = 0 ∧ KM h h1 md ad) 0 0 := by
  refine fh_ofW (cc := b_MD_told) (maxL := 2) (ret := (some .int)) (by decide) rfl (Nat.le_of_ble_eq_true rfl) ?_
  intro p e s m below meth c A ls hx hb hr hml hown hts hlocks hname hnoh hadm hA hK hZ hP hS hl
  have hG : ∀ w ∈ G, w.before _ s = true := fun w hw => hts w (List.mem_cons_of_mem _ hw)
  have hown : s.vm.findClass R_MD = some m.cls := hown
  have hl : lv_has ls 2 [(0, .ref md), (1, .int w)] := hl
  have hR0 := hR
  obtain ⟨⟨a1, a2, a3, a4, a5, a6, a7, a8⟩, a9, ⟨a10, a11, a12⟩, a14, ⟨a15, a16⟩, ⟨a21, a22⟩, ⟨a24, a25⟩, a26, a27, a28⟩ := hR
  have i1 := hI.bs10
  have i2 := hI.q40
  have i3 := hI.ca6
  have km_1 : h md = some (.inr (7, [.int (sc 0), .int (sc 1), .int (sc 2), .int (sc 3), .int (sc 4), .int (sc 5), .int (sc 6), .int (sc 7), .int (sc 8), .ref (ad 9), .int (sc 10), .ref (ad 11), .ref (ad 12), .ref (ad 13), .int (sc 14), .int (sc 15), .ref (ad 16), .ref (ad 17), .ref (ad 18), .ref (ad 19), .ref (ad 20), .int (sc 21), .ref (ad 22), .ref (ad 23), .int (sc 24), .int (sc 25), .int (sc 26), .int (sc 27), .int (sc 28)])) := hM.1
  refine lv_aload_n hx hb d_MD_told_0 rfl (lv_at hl 0 rfl) ?_
  refine lv_iconst (v := 0) hx hb d_MD_told_1 (by decide) ?_
  refine fh_put hx hb hG C_MD iG_MD hown hK hP hS km_1 0 (by decide) gm673 rfl (v := .int 0) rfl rfl (Nat.le_of_ble_eq_true rfl) d_MD_told_2 (fun H locs hP hS => ?_)
  obtain ⟨h_2, eh_3⟩ : ∃ z : fh_H, z = va_up h md (some (.inr (7, [.int 0, .int (sc 1), .int (sc 2), .int (sc 3), .int (sc 4), .int (sc 5), .int (sc 6), .int (sc 7), .int (sc 8), .ref (ad 9), .int (sc 10), .ref (ad 11), .ref (ad 12), .ref (ad 13), .int (sc 14), .int (sc 15), .ref (ad 16), .ref (ad 17), .ref (ad 18), .ref (ad 19), .ref (ad 20), .int (sc 21), .ref (ad 22), .ref (ad 23), .int (sc 24), .int (sc 25), .int (sc 26), .int (sc 27), .int (sc 28)]))) := ⟨_, rfl⟩
  have hP : fh_P E.1 vwCl A h_2 H := by rw [eh_3]; exact hP
  obtain ⟨sc_4, es_5⟩ : ∃ z : Nat → Int32, z = upd sc 0 (0) := ⟨_, rfl⟩
  have m_6 : MDs E h_2 md ad sc_4 ar := by rw [es_5]; exact hM.setS (by rw [eh_3]; rfl)
  have K_7 : KM h h_2 md ad := (KM.rfl).trans (KM.upS eh_3)
  have km_8 : h_2 md = some (.inr (7, [.int (sc_4 0), .int (sc_4 1), .int (sc_4 2), .int (sc_4 3), .int (sc_4 4), .int (sc_4 5), .int (sc_4 6), .int (sc_4 7), .int (sc_4 8), .ref (ad 9), .int (sc_4 10), .ref (ad 11), .ref (ad 12), .ref (ad 13), .int (sc_4 14), .int (sc_4 15), .ref (ad 16), .ref (ad 17), .ref (ad 18), .ref (ad 19), .ref (ad 20), .int (sc_4 21), .ref (ad 22), .ref (ad 23), .int (sc_4 24), .int (sc_4 25), .int (sc_4 26), .int (sc_4 27), .int (sc_4 28)])) := m_6.1
  have hR1 : RM sc_4 ar S := by rw [es_5]; exact hR0.code
  have c0 : sc_4 0 = 0 := by rw [es_5, upd_eq]
  have km_9 : h_2 md = some (.inr (7, [.int (sc_4 0), .int (sc_4 1), .int (sc_4 2), .int (sc_4 3), .int (sc_4 4), .int (sc_4 5), .int (sc_4 6), .int (sc_4 7), .int (sc_4 8), .ref (ad 9), .int (sc_4 10), .ref (ad 11), .ref (ad 12), .ref (ad 13), .int (sc_4 14), .int (sc_4 15), .ref (ad 16), .ref (ad 17), .ref (ad 18), .ref (ad 19), .ref (ad 20), .int (sc_4 21), .ref (ad 22), .ref (ad 23), .int (sc_4 24), .int (sc_4 25), .int (sc_4 26), .int (sc_4 27), .int (sc_4 28)])) := m_6.1
  have ka_10 : h_2 (ad 16) = some (.inl (fh_cI E, 41, .inl (ar 16))) := m_6.2.1 16 rfl
  refine lv_iload_n hx hb d_MD_told_5 rfl (lv_at hl 1 rfl) ?_
  rcases sw_in (n := 12) (by decide) w with ⟨k, hk, rfl⟩ | hw
  · rcases (show k = 0 ∨ k = 1 ∨ k = 2 ∨ k = 3 ∨ k = 4 ∨ k = 5 ∨ k = 6 ∨ k = 7 ∨ k = 8 ∨ k = 9 ∨ k = 10 ∨ k = 11 by omega) with rfl | rfl | rfl | rfl | rfl | rfl | rfl | rfl | rfl | rfl | rfl | rfl
    · refine lv_tableIn (off := 62) (tgt := 68) hx hb d_MD_told_6 (by decide) (by decide) (by decide) (by decide) ?_
      refine lv_aload_n hx hb d_MD_told_68 rfl (lv_at hl 0 rfl) ?_
      refine fh_get hx hb hG C_MD iG_MD hown hK hP km_9 1 (by decide) gm674 rfl d_MD_told_69 ?_
      exact fh_iret hx hb hr hlocks (Nat.le_of_ble_eq_true rfl) (Nat.le_of_ble_eq_true rfl) hP hS ⟨congrArg (fun z => some (Value.int z)) (hR1.1.1), sc_4, ar, m_6, hR1, c0, K_7⟩ d_MD_told_72
    · refine lv_tableIn (off := 67) (tgt := 73) hx hb d_MD_told_6 (by decide) (by decide) (by decide) (by decide) ?_
      refine lv_aload_n hx hb d_MD_told_73 rfl (lv_at hl 0 rfl) ?_
      refine fh_get hx hb hG C_MD iG_MD hown hK hP km_9 24 (by decide) gm697 rfl d_MD_told_74 ?_
      exact fh_iret hx hb hr hlocks (Nat.le_of_ble_eq_true rfl) (Nat.le_of_ble_eq_true rfl) hP hS ⟨congrArg (fun z => some (Value.int z)) (hR1.2.2.2.2.2.2.1.1), sc_4, ar, m_6, hR1, c0, K_7⟩ d_MD_told_77
    · refine lv_tableIn (off := 72) (tgt := 78) hx hb d_MD_told_6 (by decide) (by decide) (by decide) (by decide) ?_
      refine lv_aload_n hx hb d_MD_told_78 rfl (lv_at hl 0 rfl) ?_
      refine fh_get hx hb hG C_MD iG_MD hown hK hP km_9 26 (by decide) gm699 rfl d_MD_told_79 ?_
      cases hsv : S.sv with
      | none =>
        rw [hR1.2.2.2.2.2.2.2.1 hsv]
        refine lv_if_eq (tgt := 95) hx hb d_MD_told_82 (by decide) (fun c_11 => ?_) (fun c_11 => ?_)
        · skip
          refine lv_iconst (v := (-1)) hx hb d_MD_told_95 (by decide) ?_
          exact fh_iret hx hb hr hlocks (Nat.le_of_ble_eq_true rfl) (Nat.le_of_ble_eq_true rfl) hP hS ⟨by show _ = some (Value.int (match S.sv with | some r => r.1 | none => -1)); rw [hsv], sc_4, ar, m_6, hR1, c0, K_7⟩ d_MD_told_96
        · skip
          exact absurd rfl c_11
      | some r9 =>
        obtain ⟨b26, h40, b27⟩ := hR1.2.2.2.2.2.2.2.2.1 r9 hsv
        rw [b26]
        refine lv_if_eq (tgt := 95) hx hb d_MD_told_82 (by decide) (fun c_12 => ?_) (fun c_12 => ?_)
        · skip
          exact absurd c_12 (by decide)
        · skip
          refine lv_aload_n hx hb d_MD_told_85 rfl (lv_at hl 0 rfl) ?_
          refine fh_get hx hb hG C_MD iG_MD hown hK hP km_9 16 (by decide) gm689 rfl d_MD_told_86 ?_
          refine lv_bipush (v := 40) hx hb d_MD_told_89 (by decide) ?_
          refine W.eq (g2 := F0 m 91 ls [.int (nI 40), .ref (ad 16)]) (rfl) ?_
          refine fh_ialK hx hb hK hP 0 ka_10 rfl (k := 40) (by omega) (by decide) d_MD_told_91 ?_
          rw [h40.1]
          refine lv_goto (tgt := 96) hx hb d_MD_told_92 (by decide) ?_
          exact fh_iret hx hb hr hlocks (Nat.le_of_ble_eq_true rfl) (Nat.le_of_ble_eq_true rfl) hP hS ⟨by show _ = some (Value.int (match S.sv with | some r => r.1 | none => -1)); rw [hsv], sc_4, ar, m_6, hR1, c0, K_7⟩ d_MD_told_96
    · refine lv_tableIn (off := 91) (tgt := 97) hx hb d_MD_told_6 (by decide) (by decide) (by decide) (by decide) ?_
      refine lv_aload_n hx hb d_MD_told_97 rfl (lv_at hl 0 rfl) ?_
      refine fh_get hx hb hG C_MD iG_MD hown hK hP km_9 15 (by decide) gm688 rfl d_MD_told_98 ?_
      exact fh_iret hx hb hr hlocks (Nat.le_of_ble_eq_true rfl) (Nat.le_of_ble_eq_true rfl) hP hS ⟨congrArg (fun z => some (Value.int z)) (hR1.2.2.2.2.1.1), sc_4, ar, m_6, hR1, c0, K_7⟩ d_MD_told_101
    · refine lv_tableIn (off := 96) (tgt := 102) hx hb d_MD_told_6 (by decide) (by decide) (by decide) (by decide) ?_
      refine lv_aload_n hx hb d_MD_told_102 rfl (lv_at hl 0 rfl) ?_
      refine fh_get hx hb hG C_MD iG_MD hown hK hP km_9 21 (by decide) gm694 rfl d_MD_told_103 ?_
      exact fh_iret hx hb hr hlocks (Nat.le_of_ble_eq_true rfl) (Nat.le_of_ble_eq_true rfl) hP hS ⟨congrArg (fun z => some (Value.int z)) (hR1.2.2.2.2.2.1.1), sc_4, ar, m_6, hR1, c0, K_7⟩ d_MD_told_106
    · refine lv_tableIn (off := 101) (tgt := 107) hx hb d_MD_told_6 (by decide) (by decide) (by decide) (by decide) ?_
      refine lv_aload_n hx hb d_MD_told_107 rfl (lv_at hl 0 rfl) ?_
      refine fh_get hx hb hG C_MD iG_MD hown hK hP km_9 10 (by decide) gm683 rfl d_MD_told_108 ?_
      exact fh_iret hx hb hr hlocks (Nat.le_of_ble_eq_true rfl) (Nat.le_of_ble_eq_true rfl) hP hS ⟨congrArg (fun z => some (Value.int z)) (hR1.2.2.1.1), sc_4, ar, m_6, hR1, c0, K_7⟩ d_MD_told_111
    · refine lv_tableIn (off := 106) (tgt := 112) hx hb d_MD_told_6 (by decide) (by decide) (by decide) (by decide) ?_
      refine lv_aload_n hx hb d_MD_told_112 rfl (lv_at hl 0 rfl) ?_
      refine fh_get hx hb hG C_MD iG_MD hown hK hP km_9 3 (by decide) gm676 rfl d_MD_told_113 ?_
      exact fh_iret hx hb hr hlocks (Nat.le_of_ble_eq_true rfl) (Nat.le_of_ble_eq_true rfl) hP hS ⟨congrArg (fun z => some (Value.int z)) (hR1.1.2.2.1), sc_4, ar, m_6, hR1, c0, K_7⟩ d_MD_told_116
    · refine lv_tableIn (off := 111) (tgt := 117) hx hb d_MD_told_6 (by decide) (by decide) (by decide) (by decide) ?_
      refine lv_aload_n hx hb d_MD_told_117 rfl (lv_at hl 0 rfl) ?_
      refine fh_get hx hb hG C_MD iG_MD hown hK hP km_9 4 (by decide) gm677 rfl d_MD_told_118 ?_
      exact fh_iret hx hb hr hlocks (Nat.le_of_ble_eq_true rfl) (Nat.le_of_ble_eq_true rfl) hP hS ⟨congrArg (fun z => some (Value.int z)) (hR1.1.2.2.2.1), sc_4, ar, m_6, hR1, c0, K_7⟩ d_MD_told_121
    · refine lv_tableIn (off := 116) (tgt := 122) hx hb d_MD_told_6 (by decide) (by decide) (by decide) (by decide) ?_
      refine lv_aload_n hx hb d_MD_told_122 rfl (lv_at hl 0 rfl) ?_
      refine fh_get hx hb hG C_MD iG_MD hown hK hP km_9 5 (by decide) gm678 rfl d_MD_told_123 ?_
      exact fh_iret hx hb hr hlocks (Nat.le_of_ble_eq_true rfl) (Nat.le_of_ble_eq_true rfl) hP hS ⟨congrArg (fun z => some (Value.int z)) (hR1.1.2.2.2.2.1), sc_4, ar, m_6, hR1, c0, K_7⟩ d_MD_told_126
    · refine lv_tableIn (off := 121) (tgt := 127) hx hb d_MD_told_6 (by decide) (by decide) (by decide) (by decide) ?_
      refine lv_aload_n hx hb d_MD_told_127 rfl (lv_at hl 0 rfl) ?_
      refine fh_get hx hb hG C_MD iG_MD hown hK hP km_9 6 (by decide) gm679 rfl d_MD_told_128 ?_
      exact fh_iret hx hb hr hlocks (Nat.le_of_ble_eq_true rfl) (Nat.le_of_ble_eq_true rfl) hP hS ⟨congrArg (fun z => some (Value.int z)) (hR1.1.2.2.2.2.2.1), sc_4, ar, m_6, hR1, c0, K_7⟩ d_MD_told_131
    · refine lv_tableIn (off := 126) (tgt := 132) hx hb d_MD_told_6 (by decide) (by decide) (by decide) (by decide) ?_
      refine lv_aload_n hx hb d_MD_told_132 rfl (lv_at hl 0 rfl) ?_
      refine fh_get hx hb hG C_MD iG_MD hown hK hP km_9 7 (by decide) gm680 rfl d_MD_told_133 ?_
      exact fh_iret hx hb hr hlocks (Nat.le_of_ble_eq_true rfl) (Nat.le_of_ble_eq_true rfl) hP hS ⟨congrArg (fun z => some (Value.int z)) (hR1.1.2.2.2.2.2.2.1), sc_4, ar, m_6, hR1, c0, K_7⟩ d_MD_told_136
    · refine lv_tableIn (off := 131) (tgt := 137) hx hb d_MD_told_6 (by decide) (by decide) (by decide) (by decide) ?_
      refine lv_aload_n hx hb d_MD_told_137 rfl (lv_at hl 0 rfl) ?_
      refine fh_get hx hb hG C_MD iG_MD hown hK hP km_9 2 (by decide) gm675 rfl d_MD_told_138 ?_
      exact fh_iret hx hb hr hlocks (Nat.le_of_ble_eq_true rfl) (Nat.le_of_ble_eq_true rfl) hP hS ⟨congrArg (fun z => some (Value.int z)) (hR1.1.2.1), sc_4, ar, m_6, hR1, c0, K_7⟩ d_MD_told_141
  · refine lv_tableOut (tgt := 142) hx hb d_MD_told_6 (hw.imp id (fun z => by omega)) (by decide) ?_
    refine lv_iconst (v := (-1)) hx hb d_MD_told_142 (by decide) ?_
    exact fh_iret hx hb hr hlocks (Nat.le_of_ble_eq_true rfl) (Nat.le_of_ble_eq_true rfl) hP hS ⟨by rw [tdM_out hw], sc_4, ar, m_6, hR1, c0, K_7⟩ d_MD_told_143

