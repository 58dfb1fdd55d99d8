/-! THE REFERENCE: its cells. -/
section FZ
variable {p : Program} {l : Launch} {e : Env} {R : Room} {s : State} {m : MethodId} {args : Array Value} {below : List Frame} {meth : Method} {c : Code} {H : Heap} {locs : List Loc} {cells slots : Nat} {Q : State → Prop}
variable {cc : ByteArray} {pc : Nat} {ls : Array Slot} {rest : List Value} {D : va_G} {cl : List vw_C} {A : Nat → Prop} {a : Nat} {tys : List (ClassId × FieldType)} {h : fh_H} {H0 : Heap}
theorem fh_ialK (hexec : p.tables.exec = Jvm.exec) (hb : c.code = cc) (hK : va_K D cl tys s) (hP : fh_P D cl A h H) (t0 : Nat) {cA : ClassId} {n k : Nat} {f : Nat → Int32} (ha : h a = some (.inl (cA, n, .inl f))) (ht : tys[t0]? = some (cA, .int)) (hk : k < n) (hn : n < 2 ^ 31) (hdg : decode cc pc = .ok (.iaload, 1))
    (kk : W p l e R s m args below meth c H locs cells slots Q (F0 m (pc + 1) ls (.int (f k) :: rest))) : W p l e R s m args below meth c H locs cells slots Q (F0 m pc ls (.int (nI k) :: .ref a :: rest)) := by
  refine fh_iald hexec hb hK hP t0 ha ht (vp_in_nI hk hn) hdg ?_
  rw [nI_clamp (by omega)]; exact kk
theorem fh_zalK (hexec : p.tables.exec = Jvm.exec) (hb : c.code = cc) (hK : va_K D cl tys s) (hP : fh_P D cl A h H) (t0 : Nat) {cA : ClassId} {n k : Nat} {f : Nat → Int32} (ha : h a = some (.inl (cA, n, .inl f))) (ht : tys[t0]? = some (cA, .boolean)) (hk : k < n) (hn : n < 2 ^ 31) (hdg : decode cc pc = .ok (.baload, 1))
    (kk : W p l e R s m args below meth c H locs cells slots Q (F0 m (pc + 1) ls (.int (f k) :: rest))) : W p l e R s m args below meth c H locs cells slots Q (F0 m pc ls (.int (nI k) :: .ref a :: rest)) := by
  obtain ⟨w, h1, h2, h3⟩ := hP
  obtain ⟨q0, hq⟩ := (h3 a _).mp ha
  refine va_zald hexec hb hK h1 q0 t0 hq ht (vp_in_nI hk hn) hdg ?_
  rw [nI_clamp (by omega)]; exact kk
theorem fh_iasK (hexec : p.tables.exec = Jvm.exec) (hb : c.code = cc) (hK : va_K D cl tys s) (hP : fh_P D cl A h H) (hS : va_S A H0 H locs) (t0 : Nat) {cA : ClassId} {n k : Nat} {f : Nat → Int32} (ha : h a = some (.inl (cA, n, .inl f))) (ht : tys[t0]? = some (cA, .int)) {x : Int32} (hk : k < n) (hn : n < 2 ^ 31) (hdg : decode cc pc = .ok (.iastore, 1))
    (kk : ∀ (H1 : Heap) (locs1 : List Loc), fh_P D cl A (va_up h a (some (.inl (cA, n, .inl (upd f k x))))) H1 → va_S A H0 H1 locs1 → W p l e R s m args below meth c H1 locs1 cells slots Q (F0 m (pc + 1) ls rest)) : W p l e R s m args below meth c H locs cells slots Q (F0 m pc ls (.int x :: .int (nI k) :: .ref a :: rest)) := by
  refine fh_iast hexec hb hK hP hS t0 ha ht (vp_in_nI hk hn) hdg ?_
  rw [nI_clamp (by omega)]; exact kk
end FZ
/-- which fields are arrays, of what length -/
def isA (k : Nat) : Bool := [9, 11, 12, 13, 16, 17, 18, 19, 20, 22, 23].contains k
def alen (k : Nat) : Nat := if k = 9 then 256 else if k < 14 then 11 else if k < 21 then 41 else 8
def acls (E : fh_E) (k : Nat) : ClassId := if k = 13 then fh_cZ E else fh_cI E

def mdF (ad : Nat → Nat) (sc : Nat → Int32) : List Value := [.int (sc 0), .int (sc 1), .int (sc 2), .int (sc 3), .int (sc 4), .int (sc 5), .int (sc 6), .int (sc 7), .int (sc 8), .ref (ad 9), .int (sc 10), .ref (ad 11), .ref (ad 12), .ref (ad 13), .int (sc 14), .int (sc 15), .ref (ad 16), .ref (ad 17), .ref (ad 18), .ref (ad 19), .ref (ad 20), .int (sc 21), .ref (ad 22), .ref (ad 23), .int (sc 24), .int (sc 25), .int (sc 26), .int (sc 27), .int (sc 28)]
/-- the reference's cells: its fields sc, its arrays ar at the addresses ad -/
def MDs (E : fh_E) (h : fh_H) (md : Nat) (ad : Nat → Nat) (sc : Nat → Int32) (ar : Nat → Nat → Int32) : Prop := h md = some (.inr (7, mdF ad sc)) ∧ (∀ k, isA k = true → h (ad k) = some (.inl (acls E k, alen k, .inl (ar k)))) ∧ ∀ i j, isA i = true → isA j = true → ad i = ad j → i = j
theorem MDs.setA {E : fh_E} {h h1 : fh_H} {md : Nat} {ad : Nat → Nat} {sc : Nat → Int32} {ar : Nat → Nat → Int32} (hM : MDs E h md ad sc ar) (k : Nat) (hk : isA k = true) {f : Nat → Int32} (hq : h1 = va_up h (ad k) (some (.inl (acls E k, alen k, .inl f)))) : MDs E h1 md ad sc (va_up ar k f) := by
  obtain ⟨h1', h2, h3⟩ := hM
  refine ⟨by rw [hq]; exact fh_up h1' (fun z => fh_neA (h2 k hk) h1' z.symm), fun j hj => ?_, h3⟩
  by_cases z : j = k
  · rw [z, hq, va_up_self, va_up_self]
  · rw [hq, va_up_ne _ _ z]
    exact fh_up (h2 j hj) (fun w => z (h3 j k hj hk w))
theorem MDs.setS {E : fh_E} {h h1 : fh_H} {md : Nat} {ad : Nat → Nat} {sc sc2 : Nat → Int32} {ar : Nat → Nat → Int32} (hM : MDs E h md ad sc ar) (hq : h1 = va_up h md (some (.inr (7, mdF ad sc2)))) : MDs E h1 md ad sc2 ar := by
  obtain ⟨h1', h2, h3⟩ := hM
  refine ⟨by rw [hq]; exact va_up_self _ _ _, fun j hj => ?_, h3⟩
  rw [hq]
  exact fh_up (h2 j hj) (fh_neA (h2 j hj) h1')
/-- what the reference leaves -/
def KM (h h1 : fh_H) (md : Nat) (ad : Nat → Nat) : Prop := ∀ b e, h b = some e → b ≠ md → (∀ k, isA k = true → b ≠ ad k) → h1 b = some e
theorem KM.rfl {h : fh_H} {md : Nat} {ad : Nat → Nat} : KM h h md ad := fun _ _ hb _ _ => hb
theorem KM.trans {h h1 h2 : fh_H} {md : Nat} {ad : Nat → Nat} (a : KM h h1 md ad) (b : KM h1 h2 md ad) : KM h h2 md ad := fun x e hx n w => b x e (a x e hx n w) n w
theorem KM.upA {h h1 : fh_H} {md : Nat} {ad : Nat → Nat} {x : va_E} (k : Nat) (hk : isA k = true) (hq : h1 = va_up h (ad k) (some x)) : KM h h1 md ad := fun b e hb n w => by rw [hq, va_up_ne _ _ (w k hk)]; exact hb
theorem KM.upS {h h1 : fh_H} {md : Nat} {ad : Nat → Nat} {x : va_E} (hq : h1 = va_up h md (some x)) : KM h h1 md ad := fun b e hb n w => by rw [hq, va_up_ne _ _ n]; exact hb
set_option maxHeartbeats 800000 in
set_option maxRecDepth 100000 in
theorem c_MD_isBlock (l : Launch) (E : fh_E) (h : fh_H) (b : Int32) : fh_Met l y_MD_isBlock w_MD_isBlock ({ frames := 0, cells := 0, slots := 0, locals := 0 }) E [.int b] h (fun r h1 => r = some (.int (if b < 0 ∨ (256 : Int32) ≤ b then 0 else 1)) ∧ h1 = h) 0 0 := by
  refine fh_ofW (cc := b_MD_isBlock) (maxL := 1) (ret := (some .boolean)) (by decide) rfl (Nat.le_of_ble_eq_true rfl) ?_
  intro p e s m below meth c A ls hx hb hr hml hown hts hlocks hname hnoh hadm hA hK hZ hP hS hl
  have hG : ∀ w ∈ G, w.before _ s = true := fun w hw => hts w (List.mem_cons_of_mem _ hw)
  have hown : s.vm.findClass R_MD = some m.cls := hown
  have hl : lv_has ls 1 [(0, .int b)] := hl
  refine lv_iload_n hx hb d_MD_isBlock_0 rfl (lv_at hl 0 rfl) ?_
  refine lv_if_lt (tgt := 15) hx hb d_MD_isBlock_1 (by decide) (fun c_1 => ?_) (fun c_1 => ?_)
  · skip
    refine lv_iconst (v := 0) hx hb d_MD_isBlock_15 (by decide) ?_
    exact fh_zret hx hb hr rfl hlocks (Nat.le_of_ble_eq_true rfl) (Nat.le_of_ble_eq_true rfl) hP hS ⟨by rw [if_pos (Or.inl c_1)], rfl⟩ d_MD_isBlock_16
  · skip
    refine lv_iload_n hx hb d_MD_isBlock_4 rfl (lv_at hl 0 rfl) ?_
    refine lv_sipush (v := 256) hx hb d_MD_isBlock_5 (by decide) ?_
    refine lv_icmp_ge (tgt := 15) hx hb d_MD_isBlock_8 (by decide) (fun c_2 => ?_) (fun c_2 => ?_)
    · skip
      refine lv_iconst (v := 0) hx hb d_MD_isBlock_15 (by decide) ?_
      exact fh_zret hx hb hr rfl hlocks (Nat.le_of_ble_eq_true rfl) (Nat.le_of_ble_eq_true rfl) hP hS ⟨by rw [if_pos (Or.inr c_2)], rfl⟩ d_MD_isBlock_16
    · skip
      refine lv_iconst (v := 1) hx hb d_MD_isBlock_11 (by decide) ?_
      refine lv_goto (tgt := 16) hx hb d_MD_isBlock_12 (by decide) ?_
      exact fh_zret hx hb hr rfl hlocks (Nat.le_of_ble_eq_true rfl) (Nat.le_of_ble_eq_true rfl) hP hS ⟨by rw [if_neg (fun z => z.elim c_1 c_2)], rfl⟩ d_MD_isBlock_16

set_option maxHeartbeats 800000 in
set_option maxRecDepth 100000 in
theorem c_MD_thrown (l : Launch) (E : fh_E) (h : fh_H) (md : Nat) (ad : Nat → Nat) (sc : Nat → Int32) (ar : Nat → Nat → Int32) (hM : MDs E h md ad sc ar)  : fh_Met l y_MD_thrown w_MD_thrown ({ frames := 0, cells := 0, slots := 0, locals := 0 }) E [.ref md] h (fun r h1 => r = some (.int (sc 0)) ∧ h1 = h) 0 0 := by
  refine fh_ofW (cc := b_MD_thrown) (maxL := 1) (ret := (some .int)) (by decide) rfl (Nat.le_of_ble_eq_true rfl) ?_
  intro p e s m below meth c A ls hx hb hr hml hown hts hlocks hname hnoh hadm hA hK hZ hP hS hl
  have hG : ∀ w ∈ G, w.before _ s = true := fun w hw => hts w (List.mem_cons_of_mem _ hw)
  have hown : s.vm.findClass R_MD = some m.cls := hown
  have hl : lv_has ls 1 [(0, .ref md)] := hl
  have km_1 : h md = some (.inr (7, [.int (sc 0), .int (sc 1), .int (sc 2), .int (sc 3), .int (sc 4), .int (sc 5), .int (sc 6), .int (sc 7), .int (sc 8), .ref (ad 9), .int (sc 10), .ref (ad 11), .ref (ad 12), .ref (ad 13), .int (sc 14), .int (sc 15), .ref (ad 16), .ref (ad 17), .ref (ad 18), .ref (ad 19), .ref (ad 20), .int (sc 21), .ref (ad 22), .ref (ad 23), .int (sc 24), .int (sc 25), .int (sc 26), .int (sc 27), .int (sc 28)])) := hM.1
  refine lv_aload_n hx hb d_MD_thrown_0 rfl (lv_at hl 0 rfl) ?_
  refine fh_get hx hb hG C_MD iG_MD hown hK hP km_1 0 (by decide) gm673 rfl d_MD_thrown_1 ?_
  exact fh_iret hx hb hr hlocks (Nat.le_of_ble_eq_true rfl) (Nat.le_of_ble_eq_true rfl) hP hS ⟨rfl, rfl⟩ d_MD_thrown_4

set_option maxHeartbeats 800000 in
set_option maxRecDepth 100000 in
theorem c_MD_track (l : Launch) (E : fh_E) (h : fh_H) (md : Nat) (ad : Nat → Nat) (sc : Nat → Int32) (ar : Nat → Nat → Int32) (hM : MDs E h md ad sc ar) (k : Nat) (hk : k < 41) : fh_Met l y_MD_track w_MD_track ({ frames := 0, cells := 0, slots := 0, locals := 0 }) E [.ref md, .int (nI k)] h (fun r h1 => r = some (.int (ar 18 k / 8)) ∧ h1 = h) 0 0 := by
  refine fh_ofW (cc := b_MD_track) (maxL := 2) (ret := (some .int)) (by decide) rfl (Nat.le_of_ble_eq_true rfl) ?_
  intro p e s m below meth c A ls hx hb hr hml hown hts hlocks hname hnoh hadm hA hK hZ hP hS hl
  have hG : ∀ w ∈ G, w.before _ s = true := fun w hw => hts w (List.mem_cons_of_mem _ hw)
  have hown : s.vm.findClass R_MD = some m.cls := hown
  have hl : lv_has ls 2 [(0, .ref md), (1, .int (nI k))] := hl
  have km_1 : h md = some (.inr (7, [.int (sc 0), .int (sc 1), .int (sc 2), .int (sc 3), .int (sc 4), .int (sc 5), .int (sc 6), .int (sc 7), .int (sc 8), .ref (ad 9), .int (sc 10), .ref (ad 11), .ref (ad 12), .ref (ad 13), .int (sc 14), .int (sc 15), .ref (ad 16), .ref (ad 17), .ref (ad 18), .ref (ad 19), .ref (ad 20), .int (sc 21), .ref (ad 22), .ref (ad 23), .int (sc 24), .int (sc 25), .int (sc 26), .int (sc 27), .int (sc 28)])) := hM.1
  have ka_2 : h (ad 18) = some (.inl (fh_cI E, 41, .inl (ar 18))) := hM.2.1 18 rfl
  refine lv_aload_n hx hb d_MD_track_0 rfl (lv_at hl 0 rfl) ?_
  refine fh_get hx hb hG C_MD iG_MD hown hK hP km_1 18 (by decide) gm691 rfl d_MD_track_1 ?_
  refine lv_iload_n hx hb d_MD_track_4 rfl (lv_at hl 1 rfl) ?_
  refine fh_ialK hx hb hK hP 0 ka_2 rfl (k := k) (by omega) (by decide) d_MD_track_5 ?_
  refine lv_bipush (v := 8) hx hb d_MD_track_6 (by decide) ?_
  refine lv_idiv hx hb d_MD_track_8 (by decide) ?_
  exact fh_iret hx hb hr hlocks (Nat.le_of_ble_eq_true rfl) (Nat.le_of_ble_eq_true rfl) hP hS ⟨rfl, rfl⟩ d_MD_track_9

/-- the last place below n that holds b -/
def lastI (f : Nat → Int32) (b : Int32) : Nat → Int32
  | 0 => -1
  | n + 1 => if f n = b then nI n else lastI f b n
set_option maxHeartbeats 800000 in
set_option maxRecDepth 100000 in
theorem c_MD_bufferOf (l : Launch) (E : fh_E) (h : fh_H) (md : Nat) (ad : Nat → Nat) (sc : Nat → Int32) (ar : Nat → Nat → Int32) (hM : MDs E h md ad sc ar) (b : Int32) (n : Nat) (hn : sc 10 = nI n) (hn11 : n ≤ 11) : fh_Met l y_MD_bufferOf w_MD_bufferOf ({ frames := 0, cells := 0, slots := 0, locals := 0 }) E [.ref md, .int b] h (fun r h1 => r = some (.int (lastI (ar 11) b n)) ∧ h1 = h) 0 0 := by
  refine fh_ofW (cc := b_MD_bufferOf) (maxL := 4) (ret := (some .int)) (by decide) rfl (Nat.le_of_ble_eq_true rfl) ?_
  intro p e s m below meth c A ls hx hb hr hml hown hts hlocks hname hnoh hadm hA hK hZ hP hS hl
  have hG : ∀ w ∈ G, w.before _ s = true := fun w hw => hts w (List.mem_cons_of_mem _ hw)
  have hown : s.vm.findClass R_MD = some m.cls := hown
  have hl : lv_has ls 4 [(0, .ref md), (1, .int b)] := hl
  have km_1 : h md = some (.inr (7, [.int (sc 0), .int (sc 1), .int (sc 2), .int (sc 3), .int (sc 4), .int (sc 5), .int (sc 6), .int (sc 7), .int (sc 8), .ref (ad 9), .int (sc 10), .ref (ad 11), .ref (ad 12), .ref (ad 13), .int (sc 14), .int (sc 15), .ref (ad 16), .ref (ad 17), .ref (ad 18), .ref (ad 19), .ref (ad 20), .int (sc 21), .ref (ad 22), .ref (ad 23), .int (sc 24), .int (sc 25), .int (sc 26), .int (sc 27), .int (sc 28)])) := hM.1
  have ka_2 : h (ad 11) = some (.inl (fh_cI E, 11, .inl (ar 11))) := hM.2.1 11 rfl
  refine lv_iconst (v := (-1)) hx hb d_MD_bufferOf_0 (by decide) ?_
  refine lv_istore_n (lv' := [(2, .int (-1)), (0, .ref md), (1, .int b)]) hx hb d_MD_bufferOf_1 rfl hl (by decide) rfl (fun ls hl => ?_)
  refine lv_iconst (v := 0) hx hb d_MD_bufferOf_2 (by decide) ?_
  refine lv_istore_n (lv' := [(3, .int 0), (2, .int (-1)), (0, .ref md), (1, .int b)]) hx hb d_MD_bufferOf_3 rfl hl (by decide) rfl (fun ls hl => ?_)
  have loop : ∀ (f k : Nat) (ls : Array Slot), k + f = n → lv_has ls 4 [(3, .int (nI k)), (2, .int (lastI (ar 11) b k)), (0, .ref md), (1, .int b)] → W p l e ({ frames := 0, cells := 0, slots := 0, locals := 0 }) s m ([.ref md, .int b] : List Value).toArray below meth c s.heap [] 0 0 (MQ below (fh_Post E (fun r h1 => r = some (.int (lastI (ar 11) b n)) ∧ h1 = h) A) ([.ref md, .int b] : List Value).toArray s 0 0 A) (F0 m 4 ls []) := by
    intro f
    induction f with
    | zero =>
      intro k ls hkf hl
      refine lv_iload_n hx hb d_MD_bufferOf_4 rfl (lv_at hl 0 rfl) ?_
      refine lv_aload_n hx hb d_MD_bufferOf_5 rfl (lv_at hl 2 rfl) ?_
      refine fh_get hx hb hG C_MD iG_MD hown hK hP km_1 10 (by decide) gm683 rfl d_MD_bufferOf_6 ?_
      refine lv_icmp_ge (tgt := 34) hx hb d_MD_bufferOf_9 (by decide) (fun c_3 => ?_) (fun c_3 => ?_)
      · skip
        refine lv_iload_n hx hb d_MD_bufferOf_34 rfl (lv_at hl 1 rfl) ?_
        exact fh_iret hx hb hr hlocks (Nat.le_of_ble_eq_true rfl) (Nat.le_of_ble_eq_true rfl) hP hS ⟨by rw [show k = n by omega], rfl⟩ d_MD_bufferOf_35
      · skip
        exact absurd (show sc 10 ≤ nI k by rw [hn, show k = n by omega]; exact nI_le (Nat.le_refl _) (by omega)) c_3
    | succ f ih =>
      intro k ls hkf hl
      refine lv_iload_n hx hb d_MD_bufferOf_4 rfl (lv_at hl 0 rfl) ?_
      refine lv_aload_n hx hb d_MD_bufferOf_5 rfl (lv_at hl 2 rfl) ?_
      refine fh_get hx hb hG C_MD iG_MD hown hK hP km_1 10 (by decide) gm683 rfl d_MD_bufferOf_6 ?_
      refine lv_icmp_ge (tgt := 34) hx hb d_MD_bufferOf_9 (by decide) (fun c_4 => ?_) (fun c_4 => ?_)
      · skip
        rw [hn] at c_4
        exact absurd c_4 (nI_ge (by omega) (by omega))
      · skip
        refine lv_aload_n hx hb d_MD_bufferOf_12 rfl (lv_at hl 2 rfl) ?_
        refine fh_get hx hb hG C_MD iG_MD hown hK hP km_1 11 (by decide) gm684 rfl d_MD_bufferOf_13 ?_
        refine lv_iload_n hx hb d_MD_bufferOf_16 rfl (lv_at hl 0 rfl) ?_
        refine fh_ialK hx hb hK hP 0 ka_2 rfl (k := k) (by omega) (by decide) d_MD_bufferOf_17 ?_
        refine lv_iload_n hx hb d_MD_bufferOf_18 rfl (lv_at hl 3 rfl) ?_
        refine lv_icmp_ne (tgt := 26) hx hb d_MD_bufferOf_19 (by decide) (fun c_5 => ?_) (fun c_5 => ?_)
        · skip
          refine lv_iload_n hx hb d_MD_bufferOf_26 rfl (lv_at hl 1 rfl) ?_
          refine lv_istore_n (lv' := [(2, .int (lastI (ar 11) b k)), (3, .int (nI k)), (0, .ref md), (1, .int b)]) hx hb d_MD_bufferOf_27 rfl hl (by decide) rfl (fun ls hl => ?_)
          refine lv_iinc (v := ((nI k)) + 1) (lv' := [(3, .int (((nI k)) + 1)), (2, .int (lastI (ar 11) b k)), (0, .ref md), (1, .int b)]) hx hb d_MD_bufferOf_28 hl (k := 1) rfl rfl (by decide) rfl (fun ls hl => ?_)
          refine lv_goto (tgt := 4) hx hb d_MD_bufferOf_31 (by decide) ?_
          exact ih (k + 1) ls (by omega) (by rw [nI_succ, show lastI (ar 11) b (k + 1) = lastI (ar 11) b k from if_neg c_5]; exact lv_sub hl [0, 1, 2, 3] rfl)
        · skip
          refine lv_iload_n hx hb d_MD_bufferOf_22 rfl (lv_at hl 0 rfl) ?_
          refine lv_goto (tgt := 27) hx hb d_MD_bufferOf_23 (by decide) ?_
          refine lv_istore_n (lv' := [(2, .int (nI k)), (3, .int (nI k)), (0, .ref md), (1, .int b)]) hx hb d_MD_bufferOf_27 rfl hl (by decide) rfl (fun ls hl => ?_)
          refine lv_iinc (v := ((nI k)) + 1) (lv' := [(3, .int (((nI k)) + 1)), (2, .int (nI k)), (0, .ref md), (1, .int b)]) hx hb d_MD_bufferOf_28 hl (k := 1) rfl rfl (by decide) rfl (fun ls hl => ?_)
          refine lv_goto (tgt := 4) hx hb d_MD_bufferOf_31 (by decide) ?_
          exact ih (k + 1) ls (by omega) (by rw [nI_succ, show lastI (ar 11) b (k + 1) = nI k from if_pos c_5]; exact lv_sub hl [0, 1, 2, 3] rfl)
  exact loop n 0 ls (by omega) (by rw [nI_0]; exact hl)

