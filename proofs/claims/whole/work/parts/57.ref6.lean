/-! THE REFERENCE: the lowest. -/
def lowN (q : List mQ) (f : Nat → Int32) : Nat → Nat
  | 0 => 0
  | n + 1 => if rdy q n = true ∧ f n / 8 < f (lowN q f n) / 8 then n else lowN q f n
theorem lowN_le (q : List mQ) (f : Nat → Int32) : ∀ n, lowN q f n ≤ n := by
  intro n
  induction n with
  | zero => exact Nat.le_refl _
  | succ n ih =>
    show (if _ then _ else _) ≤ n + 1
    split <;> omega
set_option maxHeartbeats 400000 in
set_option maxRecDepth 100000 in
theorem c_MD_lowest (l : Launch) (E : fh_E) (h : fh_H) (md : Nat) (ad : Nat → Nat) (sc : Nat → Int32) (ar : Nat → Nat → Int32) (hM : MDs E h md ad sc ar) (q : List mQ) (hq : qL ar q) (hq41 : q.length ≤ 40) (hn : sc 15 = nI q.length) : fh_Met l y_MD_lowest w_MD_lowest ({ frames := 1, cells := 0, slots := 0, locals := 23 }) E [.ref md] h (fun r h1 => r = some (.int (nI (lowN q (ar 18) q.length))) ∧ h1 = h) 0 0 := by
  refine fh_ofW (cc := b_MD_lowest) (maxL := 3) (ret := (some .int)) (by decide) rfl (Nat.le_of_ble_eq_true rfl) ?_
  intro p e s m below meth c A ls hx hb hr hml hown hts hlocks hname hnoh hadm hA hK hZ hP hS hl
  have hG : ∀ w ∈ G, w.before _ s = true := fun w hw => hts w (List.mem_cons_of_mem _ hw)
  have hown : s.vm.findClass R_MD = some m.cls := hown
  have hl : lv_has ls 3 [(0, .ref md)] := hl
  have km_1 : h md = some (.inr (7, [.int (sc 0), .int (sc 1), .int (sc 2), .int (sc 3), .int (sc 4), .int (sc 5), .int (sc 6), .int (sc 7), .int (sc 8), .ref (ad 9), .int (sc 10), .ref (ad 11), .ref (ad 12), .ref (ad 13), .int (sc 14), .int (sc 15), .ref (ad 16), .ref (ad 17), .ref (ad 18), .ref (ad 19), .ref (ad 20), .int (sc 21), .ref (ad 22), .ref (ad 23), .int (sc 24), .int (sc 25), .int (sc 26), .int (sc 27), .int (sc 28)])) := hM.1
  refine lv_iconst (v := 0) hx hb d_MD_lowest_0 (by decide) ?_
  refine lv_istore_n (lv' := [(1, .int 0), (0, .ref md)]) hx hb d_MD_lowest_1 rfl hl (by decide) rfl (fun ls hl => ?_)
  refine lv_iconst (v := 0) hx hb d_MD_lowest_2 (by decide) ?_
  refine lv_istore_n (lv' := [(2, .int 0), (1, .int 0), (0, .ref md)]) hx hb d_MD_lowest_3 rfl hl (by decide) rfl (fun ls hl => ?_)
  have loop : ∀ (f i : Nat) (H : Heap) (locs : List Loc) (ls : Array Slot), i + f = q.length → lv_has ls 3 [(2, .int (nI i)), (1, .int (nI (lowN q (ar 18) i))), (0, .ref md)] → fh_P E.1 vwCl A h H → va_S A s.heap H locs → W p l e ({ frames := 1, cells := 0, slots := 0, locals := 23 }) s m ([.ref md] : List Value).toArray below meth c H locs 0 0 (MQ below (fh_Post E (fun r h1 => r = some (.int (nI (lowN q (ar 18) q.length))) ∧ h1 = h) A) ([.ref md] : List Value).toArray s 0 0 A) (F0 m 4 ls []) := by
    intro f
    induction f with
    | zero =>
      intro i H locs ls hkf hl hP hS
      have hlo := lowN_le q (ar 18) i
      refine lv_iload_n hx hb d_MD_lowest_4 rfl (lv_at hl 0 rfl) ?_
      refine lv_aload_n hx hb d_MD_lowest_5 rfl (lv_at hl 2 rfl) ?_
      refine fh_get hx hb hG C_MD iG_MD hown hK hP km_1 15 (by decide) gm688 rfl d_MD_lowest_6 ?_
      refine lv_icmp_ge (tgt := 45) hx hb d_MD_lowest_9 (by decide) (fun c_2 => ?_) (fun c_2 => ?_)
      · skip
        refine lv_iload_n hx hb d_MD_lowest_45 rfl (lv_at hl 1 rfl) ?_
        exact fh_iret hx hb hr hlocks (Nat.le_of_ble_eq_true rfl) (Nat.le_of_ble_eq_true rfl) hP hS ⟨by rw [show i = q.length by omega], rfl⟩ d_MD_lowest_46
      · skip
        exact absurd (show sc 15 ≤ nI i by rw [hn, show i = q.length by omega]; exact nI_le (Nat.le_refl _) (by omega)) c_2
    | succ f ih =>
      intro i H locs ls hkf hl hP hS
      have hlo := lowN_le q (ar 18) i
      refine lv_iload_n hx hb d_MD_lowest_4 rfl (lv_at hl 0 rfl) ?_
      refine lv_aload_n hx hb d_MD_lowest_5 rfl (lv_at hl 2 rfl) ?_
      refine fh_get hx hb hG C_MD iG_MD hown hK hP km_1 15 (by decide) gm688 rfl d_MD_lowest_6 ?_
      refine lv_icmp_ge (tgt := 45) hx hb d_MD_lowest_9 (by decide) (fun c_3 => ?_) (fun c_3 => ?_)
      · skip
        rw [hn] at c_3
        exact absurd c_3 (nI_ge (by omega) (by omega))
      · skip
        obtain ⟨r, hr9⟩ := mp_get (xs := q) (i := i) (by omega)
        refine lv_aload_n hx hb d_MD_lowest_12 rfl (lv_at hl 2 rfl) ?_
        refine lv_iload_n hx hb d_MD_lowest_13 rfl (lv_at hl 0 rfl) ?_
        refine fh_callV (C := R_MD) (y := y_MD_isReady) (bytes := b_MD_isReady) (maxL := 4) (ret := (some .boolean)) (index := 88) (As := [.int (nI i)]) (rest := []) ⟨hx, hb, hml, hown, hG⟩ (c_MD_isReady l E h md ad sc ar hM q hq (by omega) i r hr9) (cwV 1 hG (gV gm805 gm807 gs_MD_isReady gm8 gm808) rfl rfl rfl ⟨rfl, hdy_MD_isReady⟩ ⟨Nat.le_of_ble_eq_true rfl, Nat.le_of_ble_eq_true rfl⟩) C_MD.1 km_1 hK hZ hP hS hA rfl hl.1 rfl (Nat.le_of_ble_eq_true rfl) d_MD_lowest_14 ⟨Nat.le_of_ble_eq_true rfl, Nat.le_of_ble_eq_true rfl⟩ (fun r h1 H locs hq9 hP hS => ?_)
        obtain ⟨rfl, e9⟩ := hq9
        rw [e9] at hP
        refine W.eq (g2 := F0 m 17 ls [.int (bI (rdy q i))]) rfl ?_
        refine lv_if_eq (tgt := 37) hx hb d_MD_lowest_17 (by decide) (fun c_4 => ?_) (fun c_4 => ?_)
        · skip
          refine lv_iload_n hx hb d_MD_lowest_37 rfl (lv_at hl 1 rfl) ?_
          refine lv_istore_n (lv' := [(1, .int (nI (lowN q (ar 18) i))), (2, .int (nI i)), (0, .ref md)]) hx hb d_MD_lowest_38 rfl hl (by decide) rfl (fun ls hl => ?_)
          refine lv_iinc (v := ((nI i)) + 1) (lv' := [(2, .int (((nI i)) + 1)), (1, .int (nI (lowN q (ar 18) i))), (0, .ref md)]) hx hb d_MD_lowest_39 hl (k := 1) rfl rfl (by decide) rfl (fun ls hl => ?_)
          refine lv_goto (tgt := 4) hx hb d_MD_lowest_42 (by decide) ?_
          have e6 : lowN q (ar 18) (i + 1) = lowN q (ar 18) i := if_neg (fun z => by rw [z.1] at c_4; exact absurd c_4 (by decide))
          exact ih (i + 1) H locs ls (by omega) (by rw [nI_succ, e6]; exact hl) hP hS
        · skip
          have ht : rdy q i = true := by
            cases hz : rdy q i with
            | true => rfl
            | false => rw [hz] at c_4; exact absurd rfl c_4
          refine lv_aload_n hx hb d_MD_lowest_20 rfl (lv_at hl 2 rfl) ?_
          refine lv_iload_n hx hb d_MD_lowest_21 rfl (lv_at hl 0 rfl) ?_
          refine fh_callV (C := R_MD) (y := y_MD_track) (bytes := b_MD_track) (maxL := 2) (ret := (some .int)) (index := 81) (As := [.int (nI i)]) (rest := []) ⟨hx, hb, hml, hown, hG⟩ (c_MD_track l E h md ad sc ar hM i (by omega)) (cwV 1 hG (gV gm813 gm815 gs_MD_track gm8 gm816) rfl rfl rfl ⟨rfl, hdy_MD_track⟩ ⟨Nat.le_of_ble_eq_true rfl, Nat.le_of_ble_eq_true rfl⟩) C_MD.1 km_1 hK hZ hP hS hA rfl hl.1 rfl (Nat.le_of_ble_eq_true rfl) d_MD_lowest_22 ⟨Nat.le_of_ble_eq_true rfl, Nat.le_of_ble_eq_true rfl⟩ (fun r h1 H locs hq9 hP hS => ?_)
          obtain ⟨rfl, e9⟩ := hq9
          rw [e9] at hP
          refine W.eq (g2 := F0 m 25 ls [.int (ar 18 i / 8)]) rfl ?_
          refine lv_aload_n hx hb d_MD_lowest_25 rfl (lv_at hl 2 rfl) ?_
          refine lv_iload_n hx hb d_MD_lowest_26 rfl (lv_at hl 1 rfl) ?_
          refine fh_callV (C := R_MD) (y := y_MD_track) (bytes := b_MD_track) (maxL := 2) (ret := (some .int)) (index := 81) (As := [.int (nI (lowN q (ar 18) i))]) (rest := [.int (ar 18 i / 8)]) ⟨hx, hb, hml, hown, hG⟩ (c_MD_track l E h md ad sc ar hM (lowN q (ar 18) i) (by omega)) (cwV 1 hG (gV gm813 gm815 gs_MD_track gm8 gm816) rfl rfl rfl ⟨rfl, hdy_MD_track⟩ ⟨Nat.le_of_ble_eq_true rfl, Nat.le_of_ble_eq_true rfl⟩) C_MD.1 km_1 hK hZ hP hS hA rfl hl.1 rfl (Nat.le_of_ble_eq_true rfl) d_MD_lowest_27 ⟨Nat.le_of_ble_eq_true rfl, Nat.le_of_ble_eq_true rfl⟩ (fun r h1 H locs hq9 hP hS => ?_)
          obtain ⟨rfl, e9⟩ := hq9
          rw [e9] at hP
          refine W.eq (g2 := F0 m 30 ls [.int (ar 18 (lowN q (ar 18) i) / 8), .int (ar 18 i / 8)]) rfl ?_
          refine lv_icmp_ge (tgt := 37) hx hb d_MD_lowest_30 (by decide) (fun c_5 => ?_) (fun c_5 => ?_)
          · skip
            refine lv_iload_n hx hb d_MD_lowest_37 rfl (lv_at hl 1 rfl) ?_
            refine lv_istore_n (lv' := [(1, .int (nI (lowN q (ar 18) i))), (2, .int (nI i)), (0, .ref md)]) hx hb d_MD_lowest_38 rfl hl (by decide) rfl (fun ls hl => ?_)
            refine lv_iinc (v := ((nI i)) + 1) (lv' := [(2, .int (((nI i)) + 1)), (1, .int (nI (lowN q (ar 18) i))), (0, .ref md)]) hx hb d_MD_lowest_39 hl (k := 1) rfl rfl (by decide) rfl (fun ls hl => ?_)
            refine lv_goto (tgt := 4) hx hb d_MD_lowest_42 (by decide) ?_
            have e6 : lowN q (ar 18) (i + 1) = lowN q (ar 18) i := if_neg (fun z => absurd z.2 (Int32.not_lt.mpr c_5))
            exact ih (i + 1) H locs ls (by omega) (by rw [nI_succ, e6]; exact hl) hP hS
          · skip
            refine lv_iload_n hx hb d_MD_lowest_33 rfl (lv_at hl 0 rfl) ?_
            refine lv_goto (tgt := 38) hx hb d_MD_lowest_34 (by decide) ?_
            refine lv_istore_n (lv' := [(1, .int (nI i)), (2, .int (nI i)), (0, .ref md)]) hx hb d_MD_lowest_38 rfl hl (by decide) rfl (fun ls hl => ?_)
            refine lv_iinc (v := ((nI i)) + 1) (lv' := [(2, .int (((nI i)) + 1)), (1, .int (nI i)), (0, .ref md)]) hx hb d_MD_lowest_39 hl (k := 1) rfl rfl (by decide) rfl (fun ls hl => ?_)
            refine lv_goto (tgt := 4) hx hb d_MD_lowest_42 (by decide) ?_
            have e6 : lowN q (ar 18) (i + 1) = i := if_pos ⟨ht, Int32.not_le.mp c_5⟩
            exact ih (i + 1) H locs ls (by omega) (by rw [nI_succ, e6]; exact hl) hP hS
  exact loop q.length 0 _ _ ls (by omega) (by rw [nI_0]; exact hl) hP hS

