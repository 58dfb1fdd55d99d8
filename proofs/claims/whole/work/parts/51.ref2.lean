/-! THE REFERENCE: what it reads. -/
/-- the value at the last place below n that holds b -/
def lastV (f g : Nat → Int32) (b v : Int32) : Nat → Int32
  | 0 => v
  | n + 1 => if f n = b then g n else lastV f g b v n
def bI (b : Bool) : Int32 := if b = true then 1 else 0
/-- the arrays hold the queue -/
def qL (ar : Nat → Nat → Int32) (q : List mQ) : Prop := ∀ k r, q[k]? = some r → ar 16 k = r.1 ∧ ar 17 k = r.2.1 ∧ ar 18 k = r.2.2.1 ∧ ar 20 k = r.2.2.2.1 ∧ ar 19 k = r.2.2.2.2
def rI (q : List mQ) (r : mQ) (k i : Nat) : Bool := (k == 0 || r.2.1 != 2) && (q.take i).all (fun s => s.2.1 != 2 && s.2.2.1 != r.2.2.1)
theorem rI_succ {q : List mQ} {r s : mQ} {k i : Nat} (h : q[i]? = some s) : rI q r k (i + 1) = (rI q r k i && (s.2.1 != 2 && s.2.2.1 != r.2.2.1)) := by
  unfold rI
  rw [List.take_succ, h, List.all_append, Bool.and_assoc]
  show _ = _
  congr 1
  congr 1
  simp
theorem rI_end {q : List mQ} {r : mQ} {k : Nat} (h : q[k]? = some r) : rdy q k = rI q r k k := by
  unfold rdy rI; rw [h]
set_option maxHeartbeats 800000 in
set_option maxRecDepth 100000 in
theorem c_MD_valueAt (l : Launch) (E : fh_E) (h : fh_H) (md : Nat) (ad : Nat → Nat) (sc : Nat → Int32) (ar : Nat → Nat → Int32) (hM : MDs E h md ad sc ar) (b : Nat) (hb256 : b < 256) (n : Nat) (hn : sc 21 = nI n) (hn8 : n ≤ 8) : fh_Met l y_MD_valueAt w_MD_valueAt ({ frames := 0, cells := 0, slots := 0, locals := 0 }) E [.ref md, .int (nI b)] h (fun r h1 => r = some (.int (lastV (ar 22) (ar 23) (nI b) (ar 9 b) n)) ∧ h1 = h) 0 0 := by
  refine fh_ofW (cc := b_MD_valueAt) (maxL := 4) (ret := (some .int)) (by decide) rfl (Nat.le_of_ble_eq_true rfl) ?_
  intro p e s m below meth c A ls hx hb hr hml hown hts hlocks hname hnoh hadm hA hK hZ hP hS hl
  have hG : ∀ w ∈ G, w.before _ s = true := fun w hw => hts w (List.mem_cons_of_mem _ hw)
  have hown : s.vm.findClass R_MD = some m.cls := hown
  have hl : lv_has ls 4 [(0, .ref md), (1, .int (nI b))] := hl
  have km_1 : h md = some (.inr (7, [.int (sc 0), .int (sc 1), .int (sc 2), .int (sc 3), .int (sc 4), .int (sc 5), .int (sc 6), .int (sc 7), .int (sc 8), .ref (ad 9), .int (sc 10), .ref (ad 11), .ref (ad 12), .ref (ad 13), .int (sc 14), .int (sc 15), .ref (ad 16), .ref (ad 17), .ref (ad 18), .ref (ad 19), .ref (ad 20), .int (sc 21), .ref (ad 22), .ref (ad 23), .int (sc 24), .int (sc 25), .int (sc 26), .int (sc 27), .int (sc 28)])) := hM.1
  have ka_2 : h (ad 9) = some (.inl (fh_cI E, 256, .inl (ar 9))) := hM.2.1 9 rfl
  have ka_3 : h (ad 22) = some (.inl (fh_cI E, 8, .inl (ar 22))) := hM.2.1 22 rfl
  have ka_4 : h (ad 23) = some (.inl (fh_cI E, 8, .inl (ar 23))) := hM.2.1 23 rfl
  refine lv_aload_n hx hb d_MD_valueAt_0 rfl (lv_at hl 0 rfl) ?_
  refine fh_get hx hb hG C_MD iG_MD hown hK hP km_1 9 (by decide) gm682 rfl d_MD_valueAt_1 ?_
  refine lv_iload_n hx hb d_MD_valueAt_4 rfl (lv_at hl 1 rfl) ?_
  refine fh_ialK hx hb hK hP 0 ka_2 rfl (k := b) (by omega) (by decide) d_MD_valueAt_5 ?_
  refine lv_istore_n (lv' := [(2, .int (ar 9 b)), (0, .ref md), (1, .int (nI b))]) hx hb d_MD_valueAt_6 rfl hl (by decide) rfl (fun ls hl => ?_)
  refine lv_iconst (v := 0) hx hb d_MD_valueAt_7 (by decide) ?_
  refine lv_istore_n (lv' := [(3, .int 0), (2, .int (ar 9 b)), (0, .ref md), (1, .int (nI b))]) hx hb d_MD_valueAt_8 rfl hl (by decide) rfl (fun ls hl => ?_)
  have loop : ∀ (f k : Nat) (ls : Array Slot), k + f = n → lv_has ls 4 [(3, .int (nI k)), (2, .int (lastV (ar 22) (ar 23) (nI b) (ar 9 b) k)), (0, .ref md), (1, .int (nI b))] → W p l e ({ frames := 0, cells := 0, slots := 0, locals := 0 }) s m ([.ref md, .int (nI b)] : List Value).toArray below meth c s.heap [] 0 0 (MQ below (fh_Post E (fun r h1 => r = some (.int (lastV (ar 22) (ar 23) (nI b) (ar 9 b) n)) ∧ h1 = h) A) ([.ref md, .int (nI b)] : List Value).toArray s 0 0 A) (F0 m 9 ls []) := by
    intro f
    induction f with
    | zero =>
      intro k ls hkf hl
      refine lv_iload_n hx hb d_MD_valueAt_9 rfl (lv_at hl 0 rfl) ?_
      refine lv_aload_n hx hb d_MD_valueAt_10 rfl (lv_at hl 2 rfl) ?_
      refine fh_get hx hb hG C_MD iG_MD hown hK hP km_1 21 (by decide) gm694 rfl d_MD_valueAt_11 ?_
      refine lv_icmp_ge (tgt := 44) hx hb d_MD_valueAt_14 (by decide) (fun c_5 => ?_) (fun c_5 => ?_)
      · skip
        refine lv_iload_n hx hb d_MD_valueAt_44 rfl (lv_at hl 1 rfl) ?_
        exact fh_iret hx hb hr hlocks (Nat.le_of_ble_eq_true rfl) (Nat.le_of_ble_eq_true rfl) hP hS ⟨by rw [show k = n by omega], rfl⟩ d_MD_valueAt_45
      · skip
        exact absurd (show sc 21 ≤ nI k by rw [hn, show k = n by omega]; exact nI_le (Nat.le_refl _) (by omega)) c_5
    | succ f ih =>
      intro k ls hkf hl
      refine lv_iload_n hx hb d_MD_valueAt_9 rfl (lv_at hl 0 rfl) ?_
      refine lv_aload_n hx hb d_MD_valueAt_10 rfl (lv_at hl 2 rfl) ?_
      refine fh_get hx hb hG C_MD iG_MD hown hK hP km_1 21 (by decide) gm694 rfl d_MD_valueAt_11 ?_
      refine lv_icmp_ge (tgt := 44) hx hb d_MD_valueAt_14 (by decide) (fun c_6 => ?_) (fun c_6 => ?_)
      · skip
        rw [hn] at c_6
        exact absurd c_6 (nI_ge (by omega) (by omega))
      · skip
        refine lv_aload_n hx hb d_MD_valueAt_17 rfl (lv_at hl 2 rfl) ?_
        refine fh_get hx hb hG C_MD iG_MD hown hK hP km_1 22 (by decide) gm695 rfl d_MD_valueAt_18 ?_
        refine lv_iload_n hx hb d_MD_valueAt_21 rfl (lv_at hl 0 rfl) ?_
        refine fh_ialK hx hb hK hP 0 ka_3 rfl (k := k) (by omega) (by decide) d_MD_valueAt_22 ?_
        refine lv_iload_n hx hb d_MD_valueAt_23 rfl (lv_at hl 3 rfl) ?_
        refine lv_icmp_ne (tgt := 36) hx hb d_MD_valueAt_24 (by decide) (fun c_7 => ?_) (fun c_7 => ?_)
        · skip
          refine lv_iload_n hx hb d_MD_valueAt_36 rfl (lv_at hl 1 rfl) ?_
          refine lv_istore_n (lv' := [(2, .int (lastV (ar 22) (ar 23) (nI b) (ar 9 b) k)), (3, .int (nI k)), (0, .ref md), (1, .int (nI b))]) hx hb d_MD_valueAt_37 rfl hl (by decide) rfl (fun ls hl => ?_)
          refine lv_iinc (v := ((nI k)) + 1) (lv' := [(3, .int (((nI k)) + 1)), (2, .int (lastV (ar 22) (ar 23) (nI b) (ar 9 b) k)), (0, .ref md), (1, .int (nI b))]) hx hb d_MD_valueAt_38 hl (k := 1) rfl rfl (by decide) rfl (fun ls hl => ?_)
          refine lv_goto (tgt := 9) hx hb d_MD_valueAt_41 (by decide) ?_
          exact ih (k + 1) ls (by omega) (by rw [nI_succ, show lastV (ar 22) (ar 23) (nI b) (ar 9 b) (k + 1) = lastV (ar 22) (ar 23) (nI b) (ar 9 b) k from if_neg c_7]; exact lv_sub hl [0, 1, 2, 3] rfl)
        · skip
          refine lv_aload_n hx hb d_MD_valueAt_27 rfl (lv_at hl 2 rfl) ?_
          refine fh_get hx hb hG C_MD iG_MD hown hK hP km_1 23 (by decide) gm696 rfl d_MD_valueAt_28 ?_
          refine lv_iload_n hx hb d_MD_valueAt_31 rfl (lv_at hl 0 rfl) ?_
          refine fh_ialK hx hb hK hP 0 ka_4 rfl (k := k) (by omega) (by decide) d_MD_valueAt_32 ?_
          refine lv_goto (tgt := 37) hx hb d_MD_valueAt_33 (by decide) ?_
          refine lv_istore_n (lv' := [(2, .int (ar 23 k)), (3, .int (nI k)), (0, .ref md), (1, .int (nI b))]) hx hb d_MD_valueAt_37 rfl hl (by decide) rfl (fun ls hl => ?_)
          refine lv_iinc (v := ((nI k)) + 1) (lv' := [(3, .int (((nI k)) + 1)), (2, .int (ar 23 k)), (0, .ref md), (1, .int (nI b))]) hx hb d_MD_valueAt_38 hl (k := 1) rfl rfl (by decide) rfl (fun ls hl => ?_)
          refine lv_goto (tgt := 9) hx hb d_MD_valueAt_41 (by decide) ?_
          exact ih (k + 1) ls (by omega) (by rw [nI_succ, show lastV (ar 22) (ar 23) (nI b) (ar 9 b) (k + 1) = ar 23 k from if_pos c_7]; exact lv_sub hl [0, 1, 2, 3] rfl)
  exact loop n 0 ls (by omega) (by rw [nI_0]; exact hl)

set_option maxHeartbeats 800000 in
set_option maxRecDepth 100000 in
theorem c_MD_isReady (l : Launch) (E : fh_E) (h : fh_H) (md : Nat) (ad : Nat → Nat) (sc : Nat → Int32) (ar : Nat → Nat → Int32) (hM : MDs E h md ad sc ar) (q : List mQ) (hq : qL ar q) (hq41 : q.length ≤ 41) (k : Nat) (r : mQ) (hr9 : q[k]? = some r) : fh_Met l y_MD_isReady w_MD_isReady ({ frames := 0, cells := 0, slots := 0, locals := 0 }) E [.ref md, .int (nI k)] h (fun r h1 => r = some (.int (bI (rdy q k))) ∧ h1 = h) 0 0 := by
  refine fh_ofW (cc := b_MD_isReady) (maxL := 4) (ret := (some .boolean)) (by decide) rfl (Nat.le_of_ble_eq_true rfl) ?_
  intro p e s m below meth c A ls hx hb hr hml hown hts hlocks hname hnoh hadm hA hK hZ hP hS hl
  have hG : ∀ w ∈ G, w.before _ s = true := fun w hw => hts w (List.mem_cons_of_mem _ hw)
  have hown : s.vm.findClass R_MD = some m.cls := hown
  have hl : lv_has ls 4 [(0, .ref md), (1, .int (nI k))] := hl
  have km_1 : h md = some (.inr (7, [.int (sc 0), .int (sc 1), .int (sc 2), .int (sc 3), .int (sc 4), .int (sc 5), .int (sc 6), .int (sc 7), .int (sc 8), .ref (ad 9), .int (sc 10), .ref (ad 11), .ref (ad 12), .ref (ad 13), .int (sc 14), .int (sc 15), .ref (ad 16), .ref (ad 17), .ref (ad 18), .ref (ad 19), .ref (ad 20), .int (sc 21), .ref (ad 22), .ref (ad 23), .int (sc 24), .int (sc 25), .int (sc 26), .int (sc 27), .int (sc 28)])) := hM.1
  have ka_2 : h (ad 17) = some (.inl (fh_cI E, 41, .inl (ar 17))) := hM.2.1 17 rfl
  have ka_3 : h (ad 18) = some (.inl (fh_cI E, 41, .inl (ar 18))) := hM.2.1 18 rfl
  obtain ⟨r1, r2, r3, r4, r5⟩ := hq k r hr9
  have hk : k < q.length := (List.getElem?_eq_some_iff.mp hr9).1
  have loop : ∀ (f i : Nat) (ls : Array Slot), i + f = k → lv_has ls 4 [(3, .int (nI i)), (2, .int (bI (rI q r k i))), (0, .ref md), (1, .int (nI k))] → W p l e ({ frames := 0, cells := 0, slots := 0, locals := 0 }) s m ([.ref md, .int (nI k)] : List Value).toArray below meth c s.heap [] 0 0 (MQ below (fh_Post E (fun r h1 => r = some (.int (bI (rdy q k))) ∧ h1 = h) A) ([.ref md, .int (nI k)] : List Value).toArray s 0 0 A) (F0 m 22 ls []) := by
    intro f
    induction f with
    | zero =>
      intro i ls hkf hl
      refine lv_iload_n hx hb d_MD_isReady_22 rfl (lv_at hl 0 rfl) ?_
      refine lv_iload_n hx hb d_MD_isReady_23 rfl (lv_at hl 3 rfl) ?_
      refine lv_icmp_ge (tgt := 68) hx hb d_MD_isReady_24 (by decide) (fun c_4 => ?_) (fun c_4 => ?_)
      · skip
        refine lv_iload_n hx hb d_MD_isReady_68 rfl (lv_at hl 1 rfl) ?_
        exact fh_zret hx hb hr (by unfold bI; split <;> rfl) hlocks (Nat.le_of_ble_eq_true rfl) (Nat.le_of_ble_eq_true rfl) hP hS ⟨by rw [rI_end hr9, show i = k by omega], rfl⟩ d_MD_isReady_69
      · skip
        exact absurd (show nI k ≤ nI i by rw [show i = k by omega]; exact nI_le (Nat.le_refl _) (by omega)) c_4
    | succ f ih =>
      intro i ls hkf hl
      refine lv_iload_n hx hb d_MD_isReady_22 rfl (lv_at hl 0 rfl) ?_
      refine lv_iload_n hx hb d_MD_isReady_23 rfl (lv_at hl 3 rfl) ?_
      refine lv_icmp_ge (tgt := 68) hx hb d_MD_isReady_24 (by decide) (fun c_5 => ?_) (fun c_5 => ?_)
      · skip
        exact absurd c_5 (nI_ge (by omega) (by omega))
      · skip
        obtain ⟨s9, hs9⟩ := mp_get (xs := q) (i := i) (by omega)
        obtain ⟨s1, s2, s3, s4, s5⟩ := hq i s9 hs9
        have es := rI_succ (r := r) (k := k) hs9
        refine lv_iload_n hx hb d_MD_isReady_27 rfl (lv_at hl 1 rfl) ?_
        refine lv_if_eq (tgt := 60) hx hb d_MD_isReady_28 (by decide) (fun c_6 => ?_) (fun c_6 => ?_)
        · skip
          refine lv_iconst (v := 0) hx hb d_MD_isReady_60 (by decide) ?_
          refine lv_istore_n (lv' := [(2, .int 0), (3, .int (nI i)), (0, .ref md), (1, .int (nI k))]) hx hb d_MD_isReady_61 rfl hl (by decide) rfl (fun ls hl => ?_)
          refine lv_iinc (v := ((nI i)) + 1) (lv' := [(3, .int (((nI i)) + 1)), (2, .int 0), (0, .ref md), (1, .int (nI k))]) hx hb d_MD_isReady_62 hl (k := 1) rfl rfl (by decide) rfl (fun ls hl => ?_)
          refine lv_goto (tgt := 22) hx hb d_MD_isReady_65 (by decide) ?_
          have e6 : (rI q r k i && (s9.2.1 != 2 && s9.2.2.1 != r.2.2.1)) = false := by
            have : rI q r k i = false := by
              cases hz : rI q r k i with
              | false => rfl
              | true => rw [hz] at c_6; exact absurd c_6 (by decide)
            rw [this]; rfl
          exact ih (i + 1) ls (by omega) (by rw [nI_succ, es, e6]; exact lv_sub hl [0, 1, 2, 3] rfl)
        · skip
          have ht : rI q r k i = true := by
            cases hz : rI q r k i with
            | true => rfl
            | false => rw [hz] at c_6; exact absurd rfl c_6
          refine lv_aload_n hx hb d_MD_isReady_31 rfl (lv_at hl 2 rfl) ?_
          refine fh_get hx hb hG C_MD iG_MD hown hK hP km_1 17 (by decide) gm690 rfl d_MD_isReady_32 ?_
          refine lv_iload_n hx hb d_MD_isReady_35 rfl (lv_at hl 0 rfl) ?_
          refine fh_ialK hx hb hK hP 0 ka_2 rfl (k := i) (by omega) (by decide) d_MD_isReady_36 ?_
          refine lv_iconst (v := 2) hx hb d_MD_isReady_37 (by decide) ?_
          refine lv_icmp_eq (tgt := 60) hx hb d_MD_isReady_38 (by decide) (fun c_7 => ?_) (fun c_7 => ?_)
          · skip
            refine lv_iconst (v := 0) hx hb d_MD_isReady_60 (by decide) ?_
            refine lv_istore_n (lv' := [(2, .int 0), (3, .int (nI i)), (0, .ref md), (1, .int (nI k))]) hx hb d_MD_isReady_61 rfl hl (by decide) rfl (fun ls hl => ?_)
            refine lv_iinc (v := ((nI i)) + 1) (lv' := [(3, .int (((nI i)) + 1)), (2, .int 0), (0, .ref md), (1, .int (nI k))]) hx hb d_MD_isReady_62 hl (k := 1) rfl rfl (by decide) rfl (fun ls hl => ?_)
            refine lv_goto (tgt := 22) hx hb d_MD_isReady_65 (by decide) ?_
            have e6 : (rI q r k i && (s9.2.1 != 2 && s9.2.2.1 != r.2.2.1)) = false := by rw [ht, show s9.2.1 = 2 from s2.symm.trans c_7]; rfl
            exact ih (i + 1) ls (by omega) (by rw [nI_succ, es, e6]; exact lv_sub hl [0, 1, 2, 3] rfl)
          · skip
            refine lv_aload_n hx hb d_MD_isReady_41 rfl (lv_at hl 2 rfl) ?_
            refine fh_get hx hb hG C_MD iG_MD hown hK hP km_1 18 (by decide) gm691 rfl d_MD_isReady_42 ?_
            refine lv_iload_n hx hb d_MD_isReady_45 rfl (lv_at hl 0 rfl) ?_
            refine fh_ialK hx hb hK hP 0 ka_3 rfl (k := i) (by omega) (by decide) d_MD_isReady_46 ?_
            refine lv_aload_n hx hb d_MD_isReady_47 rfl (lv_at hl 2 rfl) ?_
            refine fh_get hx hb hG C_MD iG_MD hown hK hP km_1 18 (by decide) gm691 rfl d_MD_isReady_48 ?_
            refine lv_iload_n hx hb d_MD_isReady_51 rfl (lv_at hl 3 rfl) ?_
            refine fh_ialK hx hb hK hP 0 ka_3 rfl (k := k) (by omega) (by decide) d_MD_isReady_52 ?_
            refine lv_icmp_eq (tgt := 60) hx hb d_MD_isReady_53 (by decide) (fun c_8 => ?_) (fun c_8 => ?_)
            · skip
              refine lv_iconst (v := 0) hx hb d_MD_isReady_60 (by decide) ?_
              refine lv_istore_n (lv' := [(2, .int 0), (3, .int (nI i)), (0, .ref md), (1, .int (nI k))]) hx hb d_MD_isReady_61 rfl hl (by decide) rfl (fun ls hl => ?_)
              refine lv_iinc (v := ((nI i)) + 1) (lv' := [(3, .int (((nI i)) + 1)), (2, .int 0), (0, .ref md), (1, .int (nI k))]) hx hb d_MD_isReady_62 hl (k := 1) rfl rfl (by decide) rfl (fun ls hl => ?_)
              refine lv_goto (tgt := 22) hx hb d_MD_isReady_65 (by decide) ?_
              have e6 : (rI q r k i && (s9.2.1 != 2 && s9.2.2.1 != r.2.2.1)) = false := by rw [ht, show s9.2.2.1 = r.2.2.1 from (s3.symm.trans c_8).trans r3]; simp
              exact ih (i + 1) ls (by omega) (by rw [nI_succ, es, e6]; exact lv_sub hl [0, 1, 2, 3] rfl)
            · skip
              refine lv_iconst (v := 1) hx hb d_MD_isReady_56 (by decide) ?_
              refine lv_goto (tgt := 61) hx hb d_MD_isReady_57 (by decide) ?_
              refine lv_istore_n (lv' := [(2, .int 1), (3, .int (nI i)), (0, .ref md), (1, .int (nI k))]) hx hb d_MD_isReady_61 rfl hl (by decide) rfl (fun ls hl => ?_)
              refine lv_iinc (v := ((nI i)) + 1) (lv' := [(3, .int (((nI i)) + 1)), (2, .int 1), (0, .ref md), (1, .int (nI k))]) hx hb d_MD_isReady_62 hl (k := 1) rfl rfl (by decide) rfl (fun ls hl => ?_)
              refine lv_goto (tgt := 22) hx hb d_MD_isReady_65 (by decide) ?_
              have e6 : (rI q r k i && (s9.2.1 != 2 && s9.2.2.1 != r.2.2.1)) = true := by
                have z1 : ¬ s9.2.1 = 2 := fun z => c_7 (s2.trans z)
                have z2 : ¬ s9.2.2.1 = r.2.2.1 := fun z => c_8 ((s3.trans z).trans r3.symm)
                rw [ht]; simp [z1, z2]
              exact ih (i + 1) ls (by omega) (by rw [nI_succ, es, e6]; exact lv_sub hl [0, 1, 2, 3] rfl)
  refine lv_iload_n hx hb d_MD_isReady_0 rfl (lv_at hl 1 rfl) ?_
  refine lv_if_eq (tgt := 14) hx hb d_MD_isReady_1 (by decide) (fun c_9 => ?_) (fun c_9 => ?_)
  · skip
    refine lv_iconst (v := 1) hx hb d_MD_isReady_14 (by decide) ?_
    refine lv_goto (tgt := 19) hx hb d_MD_isReady_15 (by decide) ?_
    refine lv_istore_n (lv' := [(2, .int 1), (0, .ref md), (1, .int (nI k))]) hx hb d_MD_isReady_19 rfl hl (by decide) rfl (fun ls hl => ?_)
    refine lv_iconst (v := 0) hx hb d_MD_isReady_20 (by decide) ?_
    refine lv_istore_n (lv' := [(3, .int 0), (2, .int 1), (0, .ref md), (1, .int (nI k))]) hx hb d_MD_isReady_21 rfl hl (by decide) rfl (fun ls hl => ?_)
    have e6 : rI q r k 0 = true := by
      have : k = 0 := (nI_eq (b := 0) (by omega) (by omega)).mp c_9
      unfold rI; rw [this]; simp
    exact loop k 0 ls (by omega) (by rw [nI_0, e6]; exact hl)
  · skip
    refine lv_aload_n hx hb d_MD_isReady_4 rfl (lv_at hl 0 rfl) ?_
    refine fh_get hx hb hG C_MD iG_MD hown hK hP km_1 17 (by decide) gm690 rfl d_MD_isReady_5 ?_
    refine lv_iload_n hx hb d_MD_isReady_8 rfl (lv_at hl 1 rfl) ?_
    refine fh_ialK hx hb hK hP 0 ka_2 rfl (k := k) (by omega) (by decide) d_MD_isReady_9 ?_
    refine lv_iconst (v := 2) hx hb d_MD_isReady_10 (by decide) ?_
    refine lv_icmp_eq (tgt := 18) hx hb d_MD_isReady_11 (by decide) (fun c_10 => ?_) (fun c_10 => ?_)
    · skip
      refine lv_iconst (v := 0) hx hb d_MD_isReady_18 (by decide) ?_
      refine lv_istore_n (lv' := [(2, .int 0), (0, .ref md), (1, .int (nI k))]) hx hb d_MD_isReady_19 rfl hl (by decide) rfl (fun ls hl => ?_)
      refine lv_iconst (v := 0) hx hb d_MD_isReady_20 (by decide) ?_
      refine lv_istore_n (lv' := [(3, .int 0), (2, .int 0), (0, .ref md), (1, .int (nI k))]) hx hb d_MD_isReady_21 rfl hl (by decide) rfl (fun ls hl => ?_)
      have e6 : rI q r k 0 = false := by
        have z1 : ¬ k = 0 := fun z => c_9 (by rw [z]; rfl)
        have z2 : r.2.1 = 2 := r2.symm.trans c_10
        unfold rI; rw [z2]; simp [z1]
      exact loop k 0 ls (by omega) (by rw [nI_0, e6]; exact hl)
    · skip
      refine lv_iconst (v := 1) hx hb d_MD_isReady_14 (by decide) ?_
      refine lv_goto (tgt := 19) hx hb d_MD_isReady_15 (by decide) ?_
      refine lv_istore_n (lv' := [(2, .int 1), (0, .ref md), (1, .int (nI k))]) hx hb d_MD_isReady_19 rfl hl (by decide) rfl (fun ls hl => ?_)
      refine lv_iconst (v := 0) hx hb d_MD_isReady_20 (by decide) ?_
      refine lv_istore_n (lv' := [(3, .int 0), (2, .int 1), (0, .ref md), (1, .int (nI k))]) hx hb d_MD_isReady_21 rfl hl (by decide) rfl (fun ls hl => ?_)
      have e6 : rI q r k 0 = true := by
        have z2 : ¬ r.2.1 = 2 := fun z => c_10 (r2.trans z)
        unfold rI; simp [z2]
      exact loop k 0 ls (by omega) (by rw [nI_0, e6]; exact hl)

