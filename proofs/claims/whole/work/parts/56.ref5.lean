/-! THE REFERENCE: the nearest. -/
def dsF (how hd up : Int32) : Int32 → Int32 := fun b => dsR how (b / 8 - hd) up
theorem nearN_1 {q : List mQ} {f : Int32 → Int32} {i : Nat} {r : mQ} (h : q[i]? = some r) (hn : ¬ (rdy q i = true ∧ ¬ f r.2.2.1 < 0)) : nearN q f (i + 1) = nearN q f i := by
  show nearF q f (nearN q f i) i = _
  unfold nearF; rw [h]; simp only []; rw [if_neg hn]
theorem nearN_2 {q : List mQ} {f : Int32 → Int32} {i : Nat} {r : mQ} (h : q[i]? = some r) (hn : rdy q i = true ∧ ¬ f r.2.2.1 < 0) (hb : nearN q f i = none) : nearN q f (i + 1) = some i := by
  show nearF q f (nearN q f i) i = _
  unfold nearF; rw [h, hb]; simp only []; rw [if_pos hn]
theorem nearN_3 {q : List mQ} {f : Int32 → Int32} {i j : Nat} {r s : mQ} (h : q[i]? = some r) (hn : rdy q i = true ∧ ¬ f r.2.2.1 < 0) (hb : nearN q f i = some j) (hs : q[j]? = some s) : nearN q f (i + 1) = if f r.2.2.1 < f s.2.2.1 then some i else some j := by
  show nearF q f (nearN q f i) i = _
  unfold nearF; rw [h, hb]; simp only []; rw [if_pos hn, hs]
set_option maxHeartbeats 400000 in
set_option maxRecDepth 100000 in
theorem c_MD_nearest (l : Launch) (E : fh_E) (h : fh_H) (md : Nat) (ad : Nat → Nat) (sc : Nat → Int32) (ar : Nat → Nat → Int32) (hM : MDs E h md ad sc ar) (how : Int32) (hw : how = 1 ∨ how = 2 ∨ how = 3 ∨ how = 4) (q : List mQ) (hq : qL ar q) (hq41 : q.length ≤ 41) (hn : sc 15 = nI q.length) : fh_Met l y_MD_nearest w_MD_nearest ({ frames := 2, cells := 0, slots := 0, locals := 44 }) E [.ref md, .int how] h (fun r h1 => r = some (.int (pl (nearN q (dsF how (sc 24) (sc 25)) q.length))) ∧ h1 = h) 0 0 := by
  refine fh_ofW (cc := b_MD_nearest) (maxL := 5) (ret := (some .int)) (by decide) rfl (Nat.le_of_ble_eq_true rfl) ?_
  intro p e s m below meth c A ls hx hb hr hml hown hts hlocks hname hnoh hadm hA hK hZ hP hS hl
  have hG : ∀ w ∈ G, w.before _ s = true := fun w hw => hts w (List.mem_cons_of_mem _ hw)
  have hown : s.vm.findClass R_MD = some m.cls := hown
  have hl : lv_has ls 5 [(0, .ref md), (1, .int how)] := hl
  have km_1 : h md = some (.inr (7, [.int (sc 0), .int (sc 1), .int (sc 2), .int (sc 3), .int (sc 4), .int (sc 5), .int (sc 6), .int (sc 7), .int (sc 8), .ref (ad 9), .int (sc 10), .ref (ad 11), .ref (ad 12), .ref (ad 13), .int (sc 14), .int (sc 15), .ref (ad 16), .ref (ad 17), .ref (ad 18), .ref (ad 19), .ref (ad 20), .int (sc 21), .ref (ad 22), .ref (ad 23), .int (sc 24), .int (sc 25), .int (sc 26), .int (sc 27), .int (sc 28)])) := hM.1
  refine lv_iconst (v := (-1)) hx hb d_MD_nearest_0 (by decide) ?_
  refine lv_istore_n (lv' := [(2, .int (-1)), (0, .ref md), (1, .int how)]) hx hb d_MD_nearest_1 rfl hl (by decide) rfl (fun ls hl => ?_)
  refine lv_iconst (v := 0) hx hb d_MD_nearest_2 (by decide) ?_
  refine lv_istore_n (lv' := [(3, .int 0), (2, .int (-1)), (0, .ref md), (1, .int how)]) hx hb d_MD_nearest_3 rfl hl (by decide) rfl (fun ls hl => ?_)
  have loop : ∀ (f i : Nat) (H : Heap) (locs : List Loc) (ls : Array Slot), i + f = q.length → lv_has ls 5 [(3, .int (nI i)), (2, .int (pl (nearN q (dsF how (sc 24) (sc 25)) i))), (0, .ref md), (1, .int how)] → fh_P E.1 vwCl A h H → va_S A s.heap H locs → W p l e ({ frames := 2, cells := 0, slots := 0, locals := 44 }) s m ([.ref md, .int how] : List Value).toArray below meth c H locs 0 0 (MQ below (fh_Post E (fun r h1 => r = some (.int (pl (nearN q (dsF how (sc 24) (sc 25)) q.length))) ∧ h1 = h) A) ([.ref md, .int how] : List Value).toArray s 0 0 A) (F0 m 4 ls []) := by
    intro f
    induction f with
    | zero =>
      intro i H locs ls hkf hl hP hS
      refine lv_iload_n hx hb d_MD_nearest_4 rfl (lv_at hl 0 rfl) ?_
      refine lv_aload_n hx hb d_MD_nearest_5 rfl (lv_at hl 2 rfl) ?_
      refine fh_get hx hb hG C_MD iG_MD hown hK hP km_1 15 (by decide) gm688 rfl d_MD_nearest_6 ?_
      refine lv_icmp_ge (tgt := 72) hx hb d_MD_nearest_9 (by decide) (fun c_2 => ?_) (fun c_2 => ?_)
      · skip
        refine lv_iload_n hx hb d_MD_nearest_72 rfl (lv_at hl 1 rfl) ?_
        exact fh_iret hx hb hr hlocks (Nat.le_of_ble_eq_true rfl) (Nat.le_of_ble_eq_true rfl) hP hS ⟨by rw [show i = q.length by omega], rfl⟩ d_MD_nearest_73
      · skip
        exact absurd (show sc 15 ≤ nI i by rw [hn, show i = q.length by omega]; exact nI_le (Nat.le_refl _) (by omega)) c_2
    | succ f ih =>
      intro i H locs ls hkf hl hP hS
      refine lv_iload_n hx hb d_MD_nearest_4 rfl (lv_at hl 0 rfl) ?_
      refine lv_aload_n hx hb d_MD_nearest_5 rfl (lv_at hl 2 rfl) ?_
      refine fh_get hx hb hG C_MD iG_MD hown hK hP km_1 15 (by decide) gm688 rfl d_MD_nearest_6 ?_
      refine lv_icmp_ge (tgt := 72) hx hb d_MD_nearest_9 (by decide) (fun c_3 => ?_) (fun c_3 => ?_)
      · skip
        rw [hn] at c_3
        exact absurd c_3 (nI_ge (by omega) (by omega))
      · skip
        obtain ⟨r, hr9⟩ := mp_get (xs := q) (i := i) (by omega)
        obtain ⟨r1, r2, r3, r4, r5⟩ := hq i r hr9
        refine lv_aload_n hx hb d_MD_nearest_12 rfl (lv_at hl 2 rfl) ?_
        refine lv_iload_n hx hb d_MD_nearest_13 rfl (lv_at hl 0 rfl) ?_
        refine fh_callV (C := R_MD) (y := y_MD_isReady) (bytes := b_MD_isReady) (maxL := 4) (ret := (some .boolean)) (index := 88) (As := [.int (nI i)]) (rest := []) ⟨hx, hb, hml, hown, hG⟩ (c_MD_isReady l E h md ad sc ar hM q hq hq41 i r hr9) (cwV 1 hG (gV gm805 gm807 gs_MD_isReady gm8 gm808) rfl rfl rfl ⟨rfl, hdy_MD_isReady⟩ ⟨Nat.le_of_ble_eq_true rfl, Nat.le_of_ble_eq_true rfl⟩) C_MD.1 km_1 hK hZ hP hS hA rfl hl.1 rfl (Nat.le_of_ble_eq_true rfl) d_MD_nearest_14 ⟨Nat.le_of_ble_eq_true rfl, Nat.le_of_ble_eq_true rfl⟩ (fun r h1 H locs hq9 hP hS => ?_)
        obtain ⟨rfl, e9⟩ := hq9
        rw [e9] at hP
        refine W.eq (g2 := F0 m 17 ls [.int (bI (rdy q i))]) rfl ?_
        refine lv_if_eq (tgt := 33) hx hb d_MD_nearest_17 (by decide) (fun c_4 => ?_) (fun c_4 => ?_)
        · skip
          refine lv_iconst (v := 0) hx hb d_MD_nearest_33 (by decide) ?_
          refine lv_istore (lv' := [(4, .int 0), (3, .int (nI i)), (2, .int (pl (nearN q (dsF how (sc 24) (sc 25)) i))), (0, .ref md), (1, .int how)]) hx hb d_MD_nearest_34 hl (by decide) rfl (fun ls hl => ?_)
          refine lv_iload hx hb d_MD_nearest_36 (lv_at hl 0 rfl) ?_
          refine lv_if_eq (tgt := 64) hx hb d_MD_nearest_38 (by decide) (fun c_5 => ?_) (fun c_5 => ?_)
          · skip
            refine lv_iload_n hx hb d_MD_nearest_64 rfl (lv_at hl 2 rfl) ?_
            refine lv_istore_n (lv' := [(2, .int (pl (nearN q (dsF how (sc 24) (sc 25)) i))), (4, .int 0), (3, .int (nI i)), (0, .ref md), (1, .int how)]) hx hb d_MD_nearest_65 rfl hl (by decide) rfl (fun ls hl => ?_)
            refine lv_iinc (v := ((nI i)) + 1) (lv' := [(3, .int (((nI i)) + 1)), (2, .int (pl (nearN q (dsF how (sc 24) (sc 25)) i))), (4, .int 0), (0, .ref md), (1, .int how)]) hx hb d_MD_nearest_66 hl (k := 2) rfl rfl (by decide) rfl (fun ls hl => ?_)
            refine lv_goto (tgt := 4) hx hb d_MD_nearest_69 (by decide) ?_
            have e6 : nearN q (dsF how (sc 24) (sc 25)) (i + 1) = nearN q (dsF how (sc 24) (sc 25)) i := nearN_1 hr9 (fun z => by rw [z.1] at c_4; exact absurd c_4 (by decide))
            exact ih (i + 1) H locs ls (by omega) (by rw [nI_succ, e6]; exact lv_sub hl [0, 1, 3, 4] rfl) hP hS
          · skip
            exact absurd rfl c_5
        · skip
          have ht : rdy q i = true := by
            cases hz : rdy q i with
            | true => rfl
            | false => rw [hz] at c_4; exact absurd rfl c_4
          refine lv_aload_n hx hb d_MD_nearest_20 rfl (lv_at hl 2 rfl) ?_
          refine lv_iload_n hx hb d_MD_nearest_21 rfl (lv_at hl 0 rfl) ?_
          refine lv_iload_n hx hb d_MD_nearest_22 rfl (lv_at hl 3 rfl) ?_
          refine fh_callV (C := R_MD) (y := y_MD_distance) (bytes := b_MD_distance) (maxL := 4) (ret := (some .int)) (index := 92) (As := [.int (nI i), .int how]) (rest := []) ⟨hx, hb, hml, hown, hG⟩ (c_MD_distance l E h md ad sc ar hM i (by omega) how hw) (cwV 2 hG (gV gm809 gm811 gs_MD_distance gm8 gm812) rfl rfl rfl ⟨rfl, hdy_MD_distance⟩ ⟨Nat.le_of_ble_eq_true rfl, Nat.le_of_ble_eq_true rfl⟩) C_MD.1 km_1 hK hZ hP hS hA rfl hl.1 rfl (Nat.le_of_ble_eq_true rfl) d_MD_nearest_23 ⟨Nat.le_of_ble_eq_true rfl, Nat.le_of_ble_eq_true rfl⟩ (fun r h1 H locs hq9 hP hS => ?_)
          obtain ⟨rfl, e9⟩ := hq9
          rw [e9] at hP
          refine W.eq (g2 := F0 m 26 ls [.int (dsR how (ar 18 i / 8 - sc 24) (sc 25))]) rfl ?_
          refine lv_if_lt (tgt := 33) hx hb d_MD_nearest_26 (by decide) (fun c_6 => ?_) (fun c_6 => ?_)
          · skip
            refine lv_iconst (v := 0) hx hb d_MD_nearest_33 (by decide) ?_
            refine lv_istore (lv' := [(4, .int 0), (3, .int (nI i)), (2, .int (pl (nearN q (dsF how (sc 24) (sc 25)) i))), (0, .ref md), (1, .int how)]) hx hb d_MD_nearest_34 hl (by decide) rfl (fun ls hl => ?_)
            refine lv_iload hx hb d_MD_nearest_36 (lv_at hl 0 rfl) ?_
            refine lv_if_eq (tgt := 64) hx hb d_MD_nearest_38 (by decide) (fun c_7 => ?_) (fun c_7 => ?_)
            · skip
              refine lv_iload_n hx hb d_MD_nearest_64 rfl (lv_at hl 2 rfl) ?_
              refine lv_istore_n (lv' := [(2, .int (pl (nearN q (dsF how (sc 24) (sc 25)) i))), (4, .int 0), (3, .int (nI i)), (0, .ref md), (1, .int how)]) hx hb d_MD_nearest_65 rfl hl (by decide) rfl (fun ls hl => ?_)
              refine lv_iinc (v := ((nI i)) + 1) (lv' := [(3, .int (((nI i)) + 1)), (2, .int (pl (nearN q (dsF how (sc 24) (sc 25)) i))), (4, .int 0), (0, .ref md), (1, .int how)]) hx hb d_MD_nearest_66 hl (k := 2) rfl rfl (by decide) rfl (fun ls hl => ?_)
              refine lv_goto (tgt := 4) hx hb d_MD_nearest_69 (by decide) ?_
              have e6 : nearN q (dsF how (sc 24) (sc 25)) (i + 1) = nearN q (dsF how (sc 24) (sc 25)) i := nearN_1 hr9 (fun z => z.2 (by show dsR how (r.2.2.1 / 8 - sc 24) (sc 25) < 0; rw [← r3]; exact c_6))
              exact ih (i + 1) H locs ls (by omega) (by rw [nI_succ, e6]; exact lv_sub hl [0, 1, 3, 4] rfl) hP hS
            · skip
              exact absurd rfl c_7
          · skip
            have ok : rdy q i = true ∧ ¬ dsF how (sc 24) (sc 25) r.2.2.1 < 0 := ⟨ht, by show ¬ dsR how (r.2.2.1 / 8 - sc 24) (sc 25) < 0; rw [← r3]; exact c_6⟩
            refine lv_iconst (v := 1) hx hb d_MD_nearest_29 (by decide) ?_
            refine lv_goto (tgt := 34) hx hb d_MD_nearest_30 (by decide) ?_
            refine lv_istore (lv' := [(4, .int 1), (3, .int (nI i)), (2, .int (pl (nearN q (dsF how (sc 24) (sc 25)) i))), (0, .ref md), (1, .int how)]) hx hb d_MD_nearest_34 hl (by decide) rfl (fun ls hl => ?_)
            refine lv_iload hx hb d_MD_nearest_36 (lv_at hl 0 rfl) ?_
            refine lv_if_eq (tgt := 64) hx hb d_MD_nearest_38 (by decide) (fun c_8 => ?_) (fun c_8 => ?_)
            · skip
              exact absurd c_8 (by decide)
            · skip
              cases hb9 : nearN q (dsF how (sc 24) (sc 25)) i with
              | none =>
                rw [hb9] at hl
                have hl : lv_has ls 5 [(4, .int 1), (3, .int (nI i)), (2, .int (-1)), (0, .ref md), (1, .int how)] := hl
                refine lv_iload_n hx hb d_MD_nearest_41 rfl (lv_at hl 2 rfl) ?_
                refine lv_if_lt (tgt := 60) hx hb d_MD_nearest_42 (by decide) (fun c_9 => ?_) (fun c_9 => ?_)
                · skip
                  refine lv_iload_n hx hb d_MD_nearest_60 rfl (lv_at hl 1 rfl) ?_
                  refine lv_goto (tgt := 65) hx hb d_MD_nearest_61 (by decide) ?_
                  refine lv_istore_n (lv' := [(2, .int (nI i)), (4, .int 1), (3, .int (nI i)), (0, .ref md), (1, .int how)]) hx hb d_MD_nearest_65 rfl hl (by decide) rfl (fun ls hl => ?_)
                  refine lv_iinc (v := ((nI i)) + 1) (lv' := [(3, .int (((nI i)) + 1)), (2, .int (nI i)), (4, .int 1), (0, .ref md), (1, .int how)]) hx hb d_MD_nearest_66 hl (k := 2) rfl rfl (by decide) rfl (fun ls hl => ?_)
                  refine lv_goto (tgt := 4) hx hb d_MD_nearest_69 (by decide) ?_
                  have e6 : nearN q (dsF how (sc 24) (sc 25)) (i + 1) = some i := nearN_2 hr9 ok hb9
                  exact ih (i + 1) H locs ls (by omega) (by rw [nI_succ, e6]; exact lv_sub hl [0, 1, 3, 4] rfl) hP hS
                · skip
                  exact absurd (show (-1 : Int32) < 0 by decide) c_9
              | some j =>
                rw [hb9] at hl
                have hl : lv_has ls 5 [(4, .int 1), (3, .int (nI i)), (2, .int (nI j)), (0, .ref md), (1, .int how)] := hl
                refine lv_iload_n hx hb d_MD_nearest_41 rfl (lv_at hl 2 rfl) ?_
                refine lv_if_lt (tgt := 60) hx hb d_MD_nearest_42 (by decide) (fun c_10 => ?_) (fun c_10 => ?_)
                · skip
                  exact absurd c_10 (nI_pos (by have := (nearN_lt _ _ _ _ hb9).2; omega))
                · skip
                  have hj := (nearN_lt _ _ _ _ hb9).2
                  obtain ⟨s9, hs9⟩ := mp_get (xs := q) (i := j) hj
                  obtain ⟨s1, s2, s3, s4, s5⟩ := hq j s9 hs9
                  refine lv_aload_n hx hb d_MD_nearest_45 rfl (lv_at hl 3 rfl) ?_
                  refine lv_iload_n hx hb d_MD_nearest_46 rfl (lv_at hl 1 rfl) ?_
                  refine lv_iload_n hx hb d_MD_nearest_47 rfl (lv_at hl 4 rfl) ?_
                  refine fh_callV (C := R_MD) (y := y_MD_distance) (bytes := b_MD_distance) (maxL := 4) (ret := (some .int)) (index := 92) (As := [.int (nI i), .int how]) (rest := []) ⟨hx, hb, hml, hown, hG⟩ (c_MD_distance l E h md ad sc ar hM i (by omega) how hw) (cwV 2 hG (gV gm809 gm811 gs_MD_distance gm8 gm812) rfl rfl rfl ⟨rfl, hdy_MD_distance⟩ ⟨Nat.le_of_ble_eq_true rfl, Nat.le_of_ble_eq_true rfl⟩) C_MD.1 km_1 hK hZ hP hS hA rfl hl.1 rfl (Nat.le_of_ble_eq_true rfl) d_MD_nearest_48 ⟨Nat.le_of_ble_eq_true rfl, Nat.le_of_ble_eq_true rfl⟩ (fun r h1 H locs hq9 hP hS => ?_)
                  obtain ⟨rfl, e9⟩ := hq9
                  rw [e9] at hP
                  refine W.eq (g2 := F0 m 51 ls [.int (dsR how (ar 18 i / 8 - sc 24) (sc 25))]) rfl ?_
                  refine lv_aload_n hx hb d_MD_nearest_51 rfl (lv_at hl 3 rfl) ?_
                  refine lv_iload_n hx hb d_MD_nearest_52 rfl (lv_at hl 2 rfl) ?_
                  refine lv_iload_n hx hb d_MD_nearest_53 rfl (lv_at hl 4 rfl) ?_
                  refine fh_callV (C := R_MD) (y := y_MD_distance) (bytes := b_MD_distance) (maxL := 4) (ret := (some .int)) (index := 92) (As := [.int (nI j), .int how]) (rest := [.int (dsR how (ar 18 i / 8 - sc 24) (sc 25))]) ⟨hx, hb, hml, hown, hG⟩ (c_MD_distance l E h md ad sc ar hM j (by omega) how hw) (cwV 2 hG (gV gm809 gm811 gs_MD_distance gm8 gm812) rfl rfl rfl ⟨rfl, hdy_MD_distance⟩ ⟨Nat.le_of_ble_eq_true rfl, Nat.le_of_ble_eq_true rfl⟩) C_MD.1 km_1 hK hZ hP hS hA rfl hl.1 rfl (Nat.le_of_ble_eq_true rfl) d_MD_nearest_54 ⟨Nat.le_of_ble_eq_true rfl, Nat.le_of_ble_eq_true rfl⟩ (fun r h1 H locs hq9 hP hS => ?_)
                  obtain ⟨rfl, e9⟩ := hq9
                  rw [e9] at hP
                  refine W.eq (g2 := F0 m 57 ls [.int (dsR how (ar 18 j / 8 - sc 24) (sc 25)), .int (dsR how (ar 18 i / 8 - sc 24) (sc 25))]) rfl ?_
                  refine lv_icmp_ge (tgt := 64) hx hb d_MD_nearest_57 (by decide) (fun c_11 => ?_) (fun c_11 => ?_)
                  · skip
                    refine lv_iload_n hx hb d_MD_nearest_64 rfl (lv_at hl 2 rfl) ?_
                    refine lv_istore_n (lv' := [(2, .int (nI j)), (4, .int 1), (3, .int (nI i)), (0, .ref md), (1, .int how)]) hx hb d_MD_nearest_65 rfl hl (by decide) rfl (fun ls hl => ?_)
                    refine lv_iinc (v := ((nI i)) + 1) (lv' := [(3, .int (((nI i)) + 1)), (2, .int (nI j)), (4, .int 1), (0, .ref md), (1, .int how)]) hx hb d_MD_nearest_66 hl (k := 2) rfl rfl (by decide) rfl (fun ls hl => ?_)
                    refine lv_goto (tgt := 4) hx hb d_MD_nearest_69 (by decide) ?_
                    have e6 : nearN q (dsF how (sc 24) (sc 25)) (i + 1) = some j := (nearN_3 hr9 ok hb9 hs9).trans (if_neg (fun z => absurd (show dsR how (ar 18 i / 8 - sc 24) (sc 25) < dsR how (ar 18 j / 8 - sc 24) (sc 25) by rw [r3, s3]; exact z) (Int32.not_lt.mpr c_11)))
                    exact ih (i + 1) H locs ls (by omega) (by rw [nI_succ, e6]; exact lv_sub hl [0, 1, 3, 4] rfl) hP hS
                  · skip
                    refine lv_iload_n hx hb d_MD_nearest_60 rfl (lv_at hl 1 rfl) ?_
                    refine lv_goto (tgt := 65) hx hb d_MD_nearest_61 (by decide) ?_
                    refine lv_istore_n (lv' := [(2, .int (nI i)), (4, .int 1), (3, .int (nI i)), (0, .ref md), (1, .int how)]) hx hb d_MD_nearest_65 rfl hl (by decide) rfl (fun ls hl => ?_)
                    refine lv_iinc (v := ((nI i)) + 1) (lv' := [(3, .int (((nI i)) + 1)), (2, .int (nI i)), (4, .int 1), (0, .ref md), (1, .int how)]) hx hb d_MD_nearest_66 hl (k := 2) rfl rfl (by decide) rfl (fun ls hl => ?_)
                    refine lv_goto (tgt := 4) hx hb d_MD_nearest_69 (by decide) ?_
                    have e6 : nearN q (dsF how (sc 24) (sc 25)) (i + 1) = some i := (nearN_3 hr9 ok hb9 hs9).trans (if_pos (by show dsR how (r.2.2.1 / 8 - sc 24) (sc 25) < dsR how (s9.2.2.1 / 8 - sc 24) (sc 25); rw [← r3, ← s3]; exact Int32.not_le.mp c_11))
                    exact ih (i + 1) H locs ls (by omega) (by rw [nI_succ, e6]; exact lv_sub hl [0, 1, 3, 4] rfl) hP hS
  exact loop q.length 0 _ _ ls (by omega) (by rw [nI_0]; exact hl) hP hS

