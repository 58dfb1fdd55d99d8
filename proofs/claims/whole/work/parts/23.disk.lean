/-! THE DISK: what it reads and how it chooses. -/
def vin (mf : Nat → Int32) (cps : List tC) (b : Int32) : Int32 := match cps.find? (fun c => c.2.1 == b) with
  | some c => c.2.2.1
  | none => mf b.toNatClampNeg
def vas (mf : Nat → Int32) (cps : List tC) (sv : Option tQ) (b : Int32) : Int32 := match sv with
  | some r => if r.2.2.1 = 1 ∧ r.2.2.2.1 = b then r.2.2.2.2.2 else vin mf cps b
  | none => vin mf cps b
def sideP (wy up : Int32) : Int32 := if wy = 1 then 0 else if wy = 2 then (if up = 0 then 2 else 1) else 1
def tA (side t hd : Int32) : Int32 := if side = 1 then t - hd else if side = 2 then hd - t else if side = 3 then t else (if 0 ≤ t - hd then t - hd else 0 - (t - hd))
def fA (side hd : Int32) : Int32 → Int32 := fun b => tA side (b / 8) hd
def pl : Option Nat → Int32
  | none => -1
  | some k => nI k
def nearF (q : List mQ) (f : Int32 → Int32) (best : Option Nat) (k : Nat) : Option Nat := match q[k]? with
  | none => best
  | some r => if rdy q k = true ∧ ¬ f r.2.2.1 < 0 then (match best with
    | none => some k
    | some j => match q[j]? with
      | none => some j
      | some s => if f r.2.2.1 < f s.2.2.1 then some k else some j) else best
def nearN (q : List mQ) (f : Int32 → Int32) : Nat → Option Nat
  | 0 => none
  | n + 1 => nearF q f (nearN q f n) n
theorem nearN_lt (q : List mQ) (f : Int32 → Int32) : ∀ n j, nearN q f n = some j → j < n ∧ j < q.length := by
  intro n
  induction n with
  | zero => intro j h; cases h
  | succ n ih =>
    intro j h
    simp only [nearN, nearF] at h
    split at h
    · have := ih j h
      omega
    · rename_i r hr
      have hn := (List.getElem?_eq_some_iff.mp hr).1
      split at h
      · split at h
        · cases h; omega
        · rename_i k hk
          have hk2 := ih k hk
          split at h
          · cases h; omega
          · split at h
            · cases h; omega
            · cases h; omega
      · have := ih j h
        omega
def chs (q : List mQ) (tm hd up wy : Int32) : Option Nat × Int32 := match q with
  | [] => (none, up)
  | r0 :: _ => if r0.2.1 = 2 ∨ wy = 0 ∨ (wy = 4 ∧ ¬ tm - r0.2.2.2.1 < 100) then (some 0, up) else match nearN q (fA (sideP wy up) hd) q.length with
    | some k => (some k, up)
    | none => if wy = 2 then (nearN q (fA (sideP wy (if up = 0 then 1 else 0)) hd) q.length, if up = 0 then 1 else 0) else (nearN q (fA 3 hd) q.length, up)
theorem va_up_id {h : fh_H} {a : Nat} {e : va_E} (ha : h a = some e) : va_up h a (some e) = h := by
  funext b
  by_cases c : b = a
  · subst c; rw [va_up_self, ha]
  · rw [va_up_ne _ _ c]
theorem pl_ne {j : Nat} (h : j < 2 ^ 31) : ¬ pl (some j) = -1 := by
  show ¬ nI j = -1
  intro z
  have := nI_pos h
  rw [z] at this
  exact this (by decide)

set_option maxHeartbeats 4000000 in
set_option maxRecDepth 100000 in
theorem c_BL_trackOf (l : Launch) (E : fh_E) (h : fh_H) (b : Int32) : fh_Met l y_BL_trackOf w_BL_trackOf ({ frames := 0, cells := 0, slots := 0, locals := 0 }) E [.int b] h (fun r h1 => r = some (.int (b / 8)) ∧ h1 = h) 0 0 := by
  refine fh_ofW (cc := b_BL_trackOf) (maxL := 1) (ret := (some .int)) (by decide) rfl (Nat.le_of_ble_eq_true rfl) ?_
  intro p e s m below meth c A ls hx hb hr hml hown hts hlocks hname hnoh hadm hA hK hZ hP hS hl
  have hG : ∀ w ∈ G, w.before _ s = true := fun w hw => hts w (List.mem_cons_of_mem _ hw)
  have hown : s.vm.findClass R_BL = some m.cls := hown
  have hl : lv_has ls 1 [(0, .int b)] := hl
  refine lv_iload_n hx hb d_BL_trackOf_0 rfl (lv_at hl 0 rfl) ?_
  refine lv_bipush (v := 8) hx hb d_BL_trackOf_1 (by decide) ?_
  refine lv_idiv hx hb d_BL_trackOf_3 (by decide) ?_
  exact fh_iret hx hb hr hlocks (Nat.le_of_ble_eq_true rfl) (Nat.le_of_ble_eq_true rfl) hP hS ⟨rfl, rfl⟩ d_BL_trackOf_4

set_option maxHeartbeats 4000000 in
set_option maxRecDepth 100000 in
theorem c_DK_valueOnMedia (l : Launch) (E : fh_E) (h : fh_H) (dk qu med cs : Nat) (sv0 : Value) (ul tm hd up wy sd il : Int32) (hd0 : h dk = some (.inr (5, [.ref qu, .ref med, .ref cs, sv0, .int ul, .int tm, .int hd, .int up, .int wy, .int sd, .int il]))) (mf : Nat → Int32) (hm : h med = some (.inl (fh_cI E, 256, .inl mf))) (n : Nat) (hn : n < 256) : fh_Met l y_DK_valueOnMedia w_DK_valueOnMedia ({ frames := 0, cells := 0, slots := 0, locals := 0 }) E [.ref dk, .int (nI n)] h (fun r h1 => r = some (.int (mf n)) ∧ h1 = h) 0 0 := by
  refine fh_ofW (cc := b_DK_valueOnMedia) (maxL := 2) (ret := (some .int)) (by decide) rfl (Nat.le_of_ble_eq_true rfl) ?_
  intro p e s m below meth c A ls hx hb hr hml hown hts hlocks hname hnoh hadm hA hK hZ hP hS hl
  have hG : ∀ w ∈ G, w.before _ s = true := fun w hw => hts w (List.mem_cons_of_mem _ hw)
  have hown : s.vm.findClass R_DK = some m.cls := hown
  have hl : lv_has ls 2 [(0, .ref dk), (1, .int (nI n))] := hl
  refine lv_aload_n hx hb d_DK_valueOnMedia_0 rfl (lv_at hl 0 rfl) ?_
  refine fh_get hx hb hG C_DK iG_DK hown hK hP hd0 1 (by decide) gm89 rfl d_DK_valueOnMedia_1 ?_
  refine lv_iload_n hx hb d_DK_valueOnMedia_4 rfl (lv_at hl 1 rfl) ?_
  refine fh_iald hx hb hK hP 0 hm rfl (vp_in_nI hn (by decide)) d_DK_valueOnMedia_5 ?_
  refine W.eq (g2 := F0 m 6 ls [.int (mf n)]) (by rw [nI_clamp (by omega)]) ?_
  exact fh_iret hx hb hr hlocks (Nat.le_of_ble_eq_true rfl) (Nat.le_of_ble_eq_true rfl) hP hS ⟨rfl, rfl⟩ d_DK_valueOnMedia_6

set_option maxHeartbeats 4000000 in
set_option maxRecDepth 100000 in
theorem c_DK_valueInside (l : Launch) (E : fh_E) (h : fh_H) (dk qu med cs : Nat) (sv0 : Value) (ul tm hd up wy sd il : Int32) (hd0 : h dk = some (.inr (5, [.ref qu, .ref med, .ref cs, sv0, .int ul, .int tm, .int hd, .int up, .int wy, .int sd, .int il]))) (mf : Nat → Int32) (hm : h med = some (.inl (fh_cI E, 256, .inl mf))) (n : Nat) (hn : n < 256)(cal carr : Nat) (cps : List tC) (hC : CLs E h cs cal carr cps) (h48 : cps.length ≤ 48) : fh_Met l y_DK_valueInside w_DK_valueInside ({ frames := 4, cells := 0, slots := 0, locals := 86 }) E [.ref dk, .int (nI n)] h (fun r h1 => r = some (.int (vin mf cps (nI n))) ∧ h1 = h) 0 0 := by
  refine fh_ofW (cc := b_DK_valueInside) (maxL := 3) (ret := (some .int)) (by decide) rfl (Nat.le_of_ble_eq_true rfl) ?_
  intro p e s m below meth c A ls hx hb hr hml hown hts hlocks hname hnoh hadm hA hK hZ hP hS hl
  have hG : ∀ w ∈ G, w.before _ s = true := fun w hw => hts w (List.mem_cons_of_mem _ hw)
  have hown : s.vm.findClass R_DK = some m.cls := hown
  have hl : lv_has ls 3 [(0, .ref dk), (1, .int (nI n))] := hl
  have hC0 := hC
  obtain ⟨hc, hL, hP1⟩ := hC
  refine lv_aload_n hx hb d_DK_valueInside_0 rfl (lv_at hl 0 rfl) ?_
  refine fh_get hx hb hG C_DK iG_DK hown hK hP hd0 2 (by decide) gm90 rfl d_DK_valueInside_1 ?_
  refine lv_iload_n hx hb d_DK_valueInside_4 rfl (lv_at hl 1 rfl) ?_
  refine fh_callV (C := R_CS) (y := y_CS_copyOf) (bytes := b_CS_copyOf) (maxL := 3) (ret := (some (.object "BlockLayer$Copy"))) (index := 75) (As := [.int (nI n)]) (rest := []) ⟨hx, hb, hml, hown, hG⟩ (c_CS_copyOf l E h cs cal carr cps hC0 h48 (nI n)) (cwV 1 hG (gV gm260 gm261 gm262 gm2 gm263) rfl rfl rfl ⟨rfl, hdy_CS_copyOf⟩ ⟨Nat.le_of_ble_eq_true rfl, Nat.le_of_ble_eq_true rfl⟩) C_CS.1 hc hK hZ hP hS hA rfl hl.1 rfl (Nat.le_of_ble_eq_true rfl) d_DK_valueInside_5 ⟨Nat.le_of_ble_eq_true rfl, Nat.le_of_ble_eq_true rfl⟩ (fun r h1 H locs hq9 hP hS => ?_)
  obtain ⟨rfl, e9⟩ := hq9
  rw [e9] at hP
  refine W.eq (g2 := F0 m 8 ls [va_rf ((cps.find? (fun c => c.2.1 == nI n)).map (·.1))]) rfl ?_
  cases hfd : cps.find? (fun c => c.2.1 == nI n) with
  | none =>
    refine W.eq (g2 := F0 m 8 ls [.null]) (rfl) ?_
    refine lv_astore_nN (lv' := [(2, .null), (0, .ref dk), (1, .int (nI n))]) hx hb d_DK_valueInside_8 rfl hl (by decide) rfl (fun ls hl => ?_)
    refine lv_aload_nN hx hb d_DK_valueInside_9 rfl (lv_at hl 0 rfl) ?_
    refine lv_ifnonnullN hx hb d_DK_valueInside_10 ?_
    refine lv_aload_n hx hb d_DK_valueInside_13 rfl (lv_at hl 1 rfl) ?_
    refine fh_get hx hb hG C_DK iG_DK hown hK hP hd0 1 (by decide) gm89 rfl d_DK_valueInside_14 ?_
    refine lv_iload_n hx hb d_DK_valueInside_17 rfl (lv_at hl 2 rfl) ?_
    refine fh_iald hx hb hK hP 0 hm rfl (vp_in_nI hn (by decide)) d_DK_valueInside_18 ?_
    refine lv_goto (tgt := 26) hx hb d_DK_valueInside_19 (by decide) ?_
    exact fh_iret hx hb hr hlocks (Nat.le_of_ble_eq_true rfl) (Nat.le_of_ble_eq_true rfl) hP hS ⟨by unfold vin; rw [hfd], rfl⟩ d_DK_valueInside_26
  | some c0 =>
    have kc := hP1 c0 (List.mem_of_find?_eq_some hfd)
    refine W.eq (g2 := F0 m 8 ls [.ref c0.1]) (rfl) ?_
    refine lv_astore_n (lv' := [(2, .ref c0.1), (0, .ref dk), (1, .int (nI n))]) hx hb d_DK_valueInside_8 rfl hl (by decide) rfl (fun ls hl => ?_)
    refine lv_aload_n hx hb d_DK_valueInside_9 rfl (lv_at hl 0 rfl) ?_
    refine lv_ifnonnull (tgt := 22) hx hb d_DK_valueInside_10 (by decide) ?_
    refine lv_aload_n hx hb d_DK_valueInside_22 rfl (lv_at hl 0 rfl) ?_
    refine fh_get hx hb hG C_CP iG_CP hown hK hP kc 1 (by decide) gm278 rfl d_DK_valueInside_23 ?_
    exact fh_iret hx hb hr hlocks (Nat.le_of_ble_eq_true rfl) (Nat.le_of_ble_eq_true rfl) hP hS ⟨by unfold vin; rw [hfd], rfl⟩ d_DK_valueInside_26

set_option maxHeartbeats 4000000 in
set_option maxRecDepth 100000 in
theorem c_DK_valueAfterServing (l : Launch) (E : fh_E) (h : fh_H) (dk qu med cs : Nat) (sv : Option tQ) (ul tm hd up wy sd il : Int32) (hd0 : h dk = some (.inr (5, [.ref qu, .ref med, .ref cs, va_rf (sv.map (·.1)), .int ul, .int tm, .int hd, .int up, .int wy, .int sd, .int il]))) (hsv : (∀ r, sv = some r → h r.1 = some (.inr (3, [.int r.2.1, .int r.2.2.1, .int r.2.2.2.1, .int r.2.2.2.2.1, .int r.2.2.2.2.2, .int 0])))) (mf : Nat → Int32) (hm : h med = some (.inl (fh_cI E, 256, .inl mf))) (n : Nat) (hn : n < 256)(cal carr : Nat) (cps : List tC) (hC : CLs E h cs cal carr cps) (h48 : cps.length ≤ 48) : fh_Met l y_DK_valueAfterServing w_DK_valueAfterServing ({ frames := 5, cells := 0, slots := 0, locals := 108 }) E [.ref dk, .int (nI n)] h (fun r h1 => r = some (.int (vas mf cps sv (nI n))) ∧ h1 = h) 0 0 := by
  refine fh_ofW (cc := b_DK_valueAfterServing) (maxL := 2) (ret := (some .int)) (by decide) rfl (Nat.le_of_ble_eq_true rfl) ?_
  intro p e s m below meth c A ls hx hb hr hml hown hts hlocks hname hnoh hadm hA hK hZ hP hS hl
  have hG : ∀ w ∈ G, w.before _ s = true := fun w hw => hts w (List.mem_cons_of_mem _ hw)
  have hown : s.vm.findClass R_DK = some m.cls := hown
  have hl : lv_has ls 2 [(0, .ref dk), (1, .int (nI n))] := hl
  rcases sv with _ | r
  · have hd0 : h dk = some (.inr (5, [.ref qu, .ref med, .ref cs, .null, .int ul, .int tm, .int hd, .int up, .int wy, .int sd, .int il])) := hd0
    refine lv_aload_n hx hb d_DK_valueAfterServing_0 rfl (lv_at hl 0 rfl) ?_
    refine fh_get hx hb hG C_DK iG_DK hown hK hP hd0 3 (by decide) gm92 rfl d_DK_valueAfterServing_1 ?_
    refine lv_ifnullN (tgt := 37) hx hb d_DK_valueAfterServing_4 (by decide) ?_
    refine lv_aload_n hx hb d_DK_valueAfterServing_37 rfl (lv_at hl 0 rfl) ?_
    refine lv_iload_n hx hb d_DK_valueAfterServing_38 rfl (lv_at hl 1 rfl) ?_
    refine fh_callV (C := R_DK) (y := y_DK_valueInside) (bytes := b_DK_valueInside) (maxL := 3) (ret := (some .int)) (index := 66) (As := [.int (nI n)]) (rest := []) ⟨hx, hb, hml, hown, hG⟩ (c_DK_valueInside l E h dk qu med cs .null ul tm hd up wy sd il hd0 mf hm n hn cal carr cps hC h48) (cwV 1 hG (gV gm256 gm258 gs_DK_valueInside gm6 gm259) rfl rfl rfl ⟨rfl, hdy_DK_valueInside⟩ ⟨Nat.le_of_ble_eq_true rfl, Nat.le_of_ble_eq_true rfl⟩) C_DK.1 hd0 hK hZ hP hS hA rfl hl.1 rfl (Nat.le_of_ble_eq_true rfl) d_DK_valueAfterServing_39 ⟨Nat.le_of_ble_eq_true rfl, Nat.le_of_ble_eq_true rfl⟩ (fun r h1 H locs hq9 hP hS => ?_)
    obtain ⟨rfl, e9⟩ := hq9
    rw [e9] at hP
    refine W.eq (g2 := F0 m 42 ls [.int (vin mf cps (nI n))]) rfl ?_
    exact fh_iret hx hb hr hlocks (Nat.le_of_ble_eq_true rfl) (Nat.le_of_ble_eq_true rfl) hP hS ⟨rfl, rfl⟩ d_DK_valueAfterServing_42
  · have hd0 : h dk = some (.inr (5, [.ref qu, .ref med, .ref cs, .ref r.1, .int ul, .int tm, .int hd, .int up, .int wy, .int sd, .int il])) := hd0
    have kr := hsv r rfl
    refine lv_aload_n hx hb d_DK_valueAfterServing_0 rfl (lv_at hl 0 rfl) ?_
    refine fh_get hx hb hG C_DK iG_DK hown hK hP hd0 3 (by decide) gm92 rfl d_DK_valueAfterServing_1 ?_
    refine lv_ifnull hx hb d_DK_valueAfterServing_4 ?_
    refine lv_aload_n hx hb d_DK_valueAfterServing_7 rfl (lv_at hl 0 rfl) ?_
    refine fh_get hx hb hG C_DK iG_DK hown hK hP hd0 3 (by decide) gm92 rfl d_DK_valueAfterServing_8 ?_
    refine fh_get hx hb hG C_RQ iG_RQ hown hK hP kr 1 (by decide) gm556 rfl d_DK_valueAfterServing_11 ?_
    refine lv_iconst (v := 1) hx hb d_DK_valueAfterServing_14 (by decide) ?_
    refine lv_icmp_ne (tgt := 37) hx hb d_DK_valueAfterServing_15 (by decide) (fun c_1 => ?_) (fun c_1 => ?_)
    · skip
      refine lv_aload_n hx hb d_DK_valueAfterServing_37 rfl (lv_at hl 0 rfl) ?_
      refine lv_iload_n hx hb d_DK_valueAfterServing_38 rfl (lv_at hl 1 rfl) ?_
      refine fh_callV (C := R_DK) (y := y_DK_valueInside) (bytes := b_DK_valueInside) (maxL := 3) (ret := (some .int)) (index := 66) (As := [.int (nI n)]) (rest := []) ⟨hx, hb, hml, hown, hG⟩ (c_DK_valueInside l E h dk qu med cs (.ref r.1) ul tm hd up wy sd il hd0 mf hm n hn cal carr cps hC h48) (cwV 1 hG (gV gm256 gm258 gs_DK_valueInside gm6 gm259) rfl rfl rfl ⟨rfl, hdy_DK_valueInside⟩ ⟨Nat.le_of_ble_eq_true rfl, Nat.le_of_ble_eq_true rfl⟩) C_DK.1 hd0 hK hZ hP hS hA rfl hl.1 rfl (Nat.le_of_ble_eq_true rfl) d_DK_valueAfterServing_39 ⟨Nat.le_of_ble_eq_true rfl, Nat.le_of_ble_eq_true rfl⟩ (fun r h1 H locs hq9 hP hS => ?_)
      obtain ⟨rfl, e9⟩ := hq9
      rw [e9] at hP
      refine W.eq (g2 := F0 m 42 ls [.int (vin mf cps (nI n))]) rfl ?_
      exact fh_iret hx hb hr hlocks (Nat.le_of_ble_eq_true rfl) (Nat.le_of_ble_eq_true rfl) hP hS ⟨by unfold vas; simp only []; rw [if_neg (fun z => c_1 z.1)], rfl⟩ d_DK_valueAfterServing_42
    · skip
      refine lv_aload_n hx hb d_DK_valueAfterServing_18 rfl (lv_at hl 0 rfl) ?_
      refine fh_get hx hb hG C_DK iG_DK hown hK hP hd0 3 (by decide) gm92 rfl d_DK_valueAfterServing_19 ?_
      refine fh_get hx hb hG C_RQ iG_RQ hown hK hP kr 2 (by decide) gm560 rfl d_DK_valueAfterServing_22 ?_
      refine lv_iload_n hx hb d_DK_valueAfterServing_25 rfl (lv_at hl 1 rfl) ?_
      refine lv_icmp_ne (tgt := 37) hx hb d_DK_valueAfterServing_26 (by decide) (fun c_2 => ?_) (fun c_2 => ?_)
      · skip
        refine lv_aload_n hx hb d_DK_valueAfterServing_37 rfl (lv_at hl 0 rfl) ?_
        refine lv_iload_n hx hb d_DK_valueAfterServing_38 rfl (lv_at hl 1 rfl) ?_
        refine fh_callV (C := R_DK) (y := y_DK_valueInside) (bytes := b_DK_valueInside) (maxL := 3) (ret := (some .int)) (index := 66) (As := [.int (nI n)]) (rest := []) ⟨hx, hb, hml, hown, hG⟩ (c_DK_valueInside l E h dk qu med cs (.ref r.1) ul tm hd up wy sd il hd0 mf hm n hn cal carr cps hC h48) (cwV 1 hG (gV gm256 gm258 gs_DK_valueInside gm6 gm259) rfl rfl rfl ⟨rfl, hdy_DK_valueInside⟩ ⟨Nat.le_of_ble_eq_true rfl, Nat.le_of_ble_eq_true rfl⟩) C_DK.1 hd0 hK hZ hP hS hA rfl hl.1 rfl (Nat.le_of_ble_eq_true rfl) d_DK_valueAfterServing_39 ⟨Nat.le_of_ble_eq_true rfl, Nat.le_of_ble_eq_true rfl⟩ (fun r h1 H locs hq9 hP hS => ?_)
        obtain ⟨rfl, e9⟩ := hq9
        rw [e9] at hP
        refine W.eq (g2 := F0 m 42 ls [.int (vin mf cps (nI n))]) rfl ?_
        exact fh_iret hx hb hr hlocks (Nat.le_of_ble_eq_true rfl) (Nat.le_of_ble_eq_true rfl) hP hS ⟨by unfold vas; simp only []; rw [if_neg (fun z => c_2 z.2)], rfl⟩ d_DK_valueAfterServing_42
      · skip
        refine lv_aload_n hx hb d_DK_valueAfterServing_29 rfl (lv_at hl 0 rfl) ?_
        refine fh_get hx hb hG C_DK iG_DK hown hK hP hd0 3 (by decide) gm92 rfl d_DK_valueAfterServing_30 ?_
        refine fh_get hx hb hG C_RQ iG_RQ hown hK hP kr 4 (by decide) gm568 rfl d_DK_valueAfterServing_33 ?_
        exact fh_iret hx hb hr hlocks (Nat.le_of_ble_eq_true rfl) (Nat.le_of_ble_eq_true rfl) hP hS ⟨by unfold vas; simp only []; rw [if_pos ⟨c_1, c_2⟩], rfl⟩ d_DK_valueAfterServing_36

set_option maxHeartbeats 4000000 in
set_option maxRecDepth 100000 in
theorem c_DK_hasWork (l : Launch) (E : fh_E) (h : fh_H) (dk qu med cs : Nat) (sv : Option tQ) (ul tm hd up wy sd il : Int32) (hd0 : h dk = some (.inr (5, [.ref qu, .ref med, .ref cs, va_rf (sv.map (·.1)), .int ul, .int tm, .int hd, .int up, .int wy, .int sd, .int il]))) (qal qarr : Nat) (rqs : List tQ) (hQ : QLs E h qu qal qarr rqs) (hq48 : rqs.length ≤ 48) : fh_Met l y_DK_hasWork w_DK_hasWork ({ frames := 2, cells := 0, slots := 0, locals := 40 }) E [.ref dk] h (fun r h1 => r = some (.int (if sv = none ∧ rqs = [] then 0 else 1)) ∧ h1 = h) 0 0 := by
  refine fh_ofW (cc := b_DK_hasWork) (maxL := 1) (ret := (some .boolean)) (by decide) rfl (Nat.le_of_ble_eq_true rfl) ?_
  intro p e s m below meth c A ls hx hb hr hml hown hts hlocks hname hnoh hadm hA hK hZ hP hS hl
  have hG : ∀ w ∈ G, w.before _ s = true := fun w hw => hts w (List.mem_cons_of_mem _ hw)
  have hown : s.vm.findClass R_DK = some m.cls := hown
  have hl : lv_has ls 1 [(0, .ref dk)] := hl
  rcases sv with _ | r
  · have hd0 : h dk = some (.inr (5, [.ref qu, .ref med, .ref cs, .null, .int ul, .int tm, .int hd, .int up, .int wy, .int sd, .int il])) := hd0
    have kq := hQ.1
    refine lv_aload_n hx hb d_DK_hasWork_0 rfl (lv_at hl 0 rfl) ?_
    refine fh_get hx hb hG C_DK iG_DK hown hK hP hd0 3 (by decide) gm92 rfl d_DK_hasWork_1 ?_
    refine lv_ifnonnullN hx hb d_DK_hasWork_4 ?_
    refine lv_aload_n hx hb d_DK_hasWork_7 rfl (lv_at hl 0 rfl) ?_
    refine fh_get hx hb hG C_DK iG_DK hown hK hP hd0 0 (by decide) gm87 rfl d_DK_hasWork_8 ?_
    refine fh_callV (C := R_QU) (y := y_QU_size) (bytes := b_QU_size) (maxL := 1) (ret := (some .int)) (index := 41) (As := []) (rest := []) ⟨hx, hb, hml, hown, hG⟩ (c_QU_size l E h qu qal qarr rqs hQ hq48) (cwV 0 hG (gV gm160 gm161 gm162 gm7 gm163) rfl rfl rfl ⟨rfl, hdy_QU_size⟩ ⟨Nat.le_of_ble_eq_true rfl, Nat.le_of_ble_eq_true rfl⟩) C_QU.1 kq hK hZ hP hS hA rfl hl.1 rfl (Nat.le_of_ble_eq_true rfl) d_DK_hasWork_11 ⟨Nat.le_of_ble_eq_true rfl, Nat.le_of_ble_eq_true rfl⟩ (fun r h1 H locs hq9 hP hS => ?_)
    obtain ⟨rfl, e9⟩ := hq9
    rw [e9] at hP
    refine W.eq (g2 := F0 m 14 ls [.int (nI rqs.length)]) rfl ?_
    refine lv_if_le (tgt := 21) hx hb d_DK_hasWork_14 (by decide) (fun c_1 => ?_) (fun c_1 => ?_)
    · skip
      refine lv_iconst (v := 0) hx hb d_DK_hasWork_21 (by decide) ?_
      exact fh_zret hx hb hr rfl hlocks (Nat.le_of_ble_eq_true rfl) (Nat.le_of_ble_eq_true rfl) hP hS ⟨by rw [if_pos ⟨rfl, List.eq_nil_of_length_eq_zero (Nat.le_zero.mp ((nI_leI (by omega) (by decide)).mp (by rw [nI_0]; exact c_1)))⟩], rfl⟩ d_DK_hasWork_22
    · skip
      refine lv_iconst (v := 1) hx hb d_DK_hasWork_17 (by decide) ?_
      refine lv_goto (tgt := 22) hx hb d_DK_hasWork_18 (by decide) ?_
      exact fh_zret hx hb hr rfl hlocks (Nat.le_of_ble_eq_true rfl) (Nat.le_of_ble_eq_true rfl) hP hS ⟨by rw [if_neg (fun z => c_1 (by rw [z.2]; decide))], rfl⟩ d_DK_hasWork_22
  · have hd0 : h dk = some (.inr (5, [.ref qu, .ref med, .ref cs, .ref r.1, .int ul, .int tm, .int hd, .int up, .int wy, .int sd, .int il])) := hd0
    have kq := hQ.1
    refine lv_aload_n hx hb d_DK_hasWork_0 rfl (lv_at hl 0 rfl) ?_
    refine fh_get hx hb hG C_DK iG_DK hown hK hP hd0 3 (by decide) gm92 rfl d_DK_hasWork_1 ?_
    refine lv_ifnonnull (tgt := 17) hx hb d_DK_hasWork_4 (by decide) ?_
    refine lv_iconst (v := 1) hx hb d_DK_hasWork_17 (by decide) ?_
    refine lv_goto (tgt := 22) hx hb d_DK_hasWork_18 (by decide) ?_
    exact fh_zret hx hb hr rfl hlocks (Nat.le_of_ble_eq_true rfl) (Nat.le_of_ble_eq_true rfl) hP hS ⟨by rw [if_neg (fun z => by cases z.1)], rfl⟩ d_DK_hasWork_22

set_option maxHeartbeats 4000000 in
set_option maxRecDepth 100000 in
theorem c_DK_isOldUnderPolicy (l : Launch) (E : fh_E) (h : fh_H) (dk qu med cs : Nat) (sv0 : Value) (ul tm hd up wy sd il : Int32) (hd0 : h dk = some (.inr (5, [.ref qu, .ref med, .ref cs, sv0, .int ul, .int tm, .int hd, .int up, .int wy, .int sd, .int il]))) (r9 : tQ) (hr9 : h r9.1 = some (.inr (3, [.int r9.2.1, .int r9.2.2.1, .int r9.2.2.2.1, .int r9.2.2.2.2.1, .int r9.2.2.2.2.2, .int 0]))) : fh_Met l y_DK_isOldUnderPolicy w_DK_isOldUnderPolicy ({ frames := 0, cells := 0, slots := 0, locals := 0 }) E [.ref dk, .ref r9.1] h (fun r h1 => r = some (.int (if wy = 4 ∧ ¬ tm - r9.2.2.2.2.1 < 100 then 1 else 0)) ∧ h1 = h) 0 0 := by
  refine fh_ofW (cc := b_DK_isOldUnderPolicy) (maxL := 2) (ret := (some .boolean)) (by decide) rfl (Nat.le_of_ble_eq_true rfl) ?_
  intro p e s m below meth c A ls hx hb hr hml hown hts hlocks hname hnoh hadm hA hK hZ hP hS hl
  have hG : ∀ w ∈ G, w.before _ s = true := fun w hw => hts w (List.mem_cons_of_mem _ hw)
  have hown : s.vm.findClass R_DK = some m.cls := hown
  have hl : lv_has ls 2 [(0, .ref dk), (1, .ref r9.1)] := hl
  refine lv_aload_n hx hb d_DK_isOldUnderPolicy_0 rfl (lv_at hl 0 rfl) ?_
  refine fh_get hx hb hG C_DK iG_DK hown hK hP hd0 8 (by decide) gm100 rfl d_DK_isOldUnderPolicy_1 ?_
  refine lv_iconst (v := 4) hx hb d_DK_isOldUnderPolicy_4 (by decide) ?_
  refine lv_icmp_ne (tgt := 26) hx hb d_DK_isOldUnderPolicy_5 (by decide) (fun c_1 => ?_) (fun c_1 => ?_)
  · skip
    refine lv_iconst (v := 0) hx hb d_DK_isOldUnderPolicy_26 (by decide) ?_
    exact fh_zret hx hb hr rfl hlocks (Nat.le_of_ble_eq_true rfl) (Nat.le_of_ble_eq_true rfl) hP hS ⟨by rw [if_neg (fun z => c_1 z.1)], rfl⟩ d_DK_isOldUnderPolicy_27
  · skip
    refine lv_aload_n hx hb d_DK_isOldUnderPolicy_8 rfl (lv_at hl 0 rfl) ?_
    refine fh_get hx hb hG C_DK iG_DK hown hK hP hd0 5 (by decide) gm96 rfl d_DK_isOldUnderPolicy_9 ?_
    refine lv_aload_n hx hb d_DK_isOldUnderPolicy_12 rfl (lv_at hl 1 rfl) ?_
    refine fh_get hx hb hG C_RQ iG_RQ hown hK hP hr9 3 (by decide) gm564 rfl d_DK_isOldUnderPolicy_13 ?_
    refine lv_isub hx hb d_DK_isOldUnderPolicy_16 ?_
    refine lv_bipush (v := 100) hx hb d_DK_isOldUnderPolicy_17 (by decide) ?_
    refine lv_icmp_lt (tgt := 26) hx hb d_DK_isOldUnderPolicy_19 (by decide) (fun c_2 => ?_) (fun c_2 => ?_)
    · skip
      refine lv_iconst (v := 0) hx hb d_DK_isOldUnderPolicy_26 (by decide) ?_
      exact fh_zret hx hb hr rfl hlocks (Nat.le_of_ble_eq_true rfl) (Nat.le_of_ble_eq_true rfl) hP hS ⟨by rw [if_neg (fun z => z.2 c_2)], rfl⟩ d_DK_isOldUnderPolicy_27
    · skip
      refine lv_iconst (v := 1) hx hb d_DK_isOldUnderPolicy_22 (by decide) ?_
      refine lv_goto (tgt := 27) hx hb d_DK_isOldUnderPolicy_23 (by decide) ?_
      exact fh_zret hx hb hr rfl hlocks (Nat.le_of_ble_eq_true rfl) (Nat.le_of_ble_eq_true rfl) hP hS ⟨by rw [if_pos ⟨c_1, c_2⟩], rfl⟩ d_DK_isOldUnderPolicy_27

set_option maxHeartbeats 4000000 in
set_option maxRecDepth 100000 in
theorem c_DK_sideOfPolicy (l : Launch) (E : fh_E) (h : fh_H) (dk qu med cs : Nat) (sv0 : Value) (ul tm hd up wy sd il : Int32) (hd0 : h dk = some (.inr (5, [.ref qu, .ref med, .ref cs, sv0, .int ul, .int tm, .int hd, .int up, .int wy, .int sd, .int il])))  : fh_Met l y_DK_sideOfPolicy w_DK_sideOfPolicy ({ frames := 0, cells := 0, slots := 0, locals := 0 }) E [.ref dk] h (fun r h1 => r = some (.int (sideP wy up)) ∧ h1 = h) 0 0 := by
  refine fh_ofW (cc := b_DK_sideOfPolicy) (maxL := 1) (ret := (some .int)) (by decide) rfl (Nat.le_of_ble_eq_true rfl) ?_
  intro p e s m below meth c A ls hx hb hr hml hown hts hlocks hname hnoh hadm hA hK hZ hP hS hl
  have hG : ∀ w ∈ G, w.before _ s = true := fun w hw => hts w (List.mem_cons_of_mem _ hw)
  have hown : s.vm.findClass R_DK = some m.cls := hown
  have hl : lv_has ls 1 [(0, .ref dk)] := hl
  refine lv_aload_n hx hb d_DK_sideOfPolicy_0 rfl (lv_at hl 0 rfl) ?_
  refine fh_get hx hb hG C_DK iG_DK hown hK hP hd0 8 (by decide) gm100 rfl d_DK_sideOfPolicy_1 ?_
  refine lv_iconst (v := 1) hx hb d_DK_sideOfPolicy_4 (by decide) ?_
  refine lv_icmp_ne (tgt := 10) hx hb d_DK_sideOfPolicy_5 (by decide) (fun c_1 => ?_) (fun c_1 => ?_)
  · skip
    refine lv_aload_n hx hb d_DK_sideOfPolicy_10 rfl (lv_at hl 0 rfl) ?_
    refine fh_get hx hb hG C_DK iG_DK hown hK hP hd0 8 (by decide) gm100 rfl d_DK_sideOfPolicy_11 ?_
    refine lv_iconst (v := 2) hx hb d_DK_sideOfPolicy_14 (by decide) ?_
    refine lv_icmp_ne (tgt := 29) hx hb d_DK_sideOfPolicy_15 (by decide) (fun c_2 => ?_) (fun c_2 => ?_)
    · skip
      refine lv_iconst (v := 1) hx hb d_DK_sideOfPolicy_29 (by decide) ?_
      exact fh_iret hx hb hr hlocks (Nat.le_of_ble_eq_true rfl) (Nat.le_of_ble_eq_true rfl) hP hS ⟨by unfold sideP; rw [if_neg c_1, if_neg c_2], rfl⟩ d_DK_sideOfPolicy_30
    · skip
      refine lv_aload_n hx hb d_DK_sideOfPolicy_18 rfl (lv_at hl 0 rfl) ?_
      refine fh_get hx hb hG C_DK iG_DK hown hK hP hd0 7 (by decide) gm99 rfl d_DK_sideOfPolicy_19 ?_
      refine lv_if_ne (tgt := 29) hx hb d_DK_sideOfPolicy_22 (by decide) (fun c_3 => ?_) (fun c_3 => ?_)
      · skip
        refine lv_iconst (v := 1) hx hb d_DK_sideOfPolicy_29 (by decide) ?_
        exact fh_iret hx hb hr hlocks (Nat.le_of_ble_eq_true rfl) (Nat.le_of_ble_eq_true rfl) hP hS ⟨by unfold sideP; rw [if_neg c_1, if_pos c_2, if_neg c_3], rfl⟩ d_DK_sideOfPolicy_30
      · skip
        refine lv_iconst (v := 2) hx hb d_DK_sideOfPolicy_25 (by decide) ?_
        refine lv_goto (tgt := 30) hx hb d_DK_sideOfPolicy_26 (by decide) ?_
        exact fh_iret hx hb hr hlocks (Nat.le_of_ble_eq_true rfl) (Nat.le_of_ble_eq_true rfl) hP hS ⟨by unfold sideP; rw [if_neg c_1, if_pos c_2, if_pos c_3], rfl⟩ d_DK_sideOfPolicy_30
  · skip
    refine lv_iconst (v := 0) hx hb d_DK_sideOfPolicy_8 (by decide) ?_
    exact fh_iret hx hb hr hlocks (Nat.le_of_ble_eq_true rfl) (Nat.le_of_ble_eq_true rfl) hP hS ⟨by unfold sideP; rw [if_pos c_1], rfl⟩ d_DK_sideOfPolicy_9

set_option maxHeartbeats 4000000 in
set_option maxRecDepth 100000 in
theorem c_DK_tracksAway (l : Launch) (E : fh_E) (h : fh_H) (dk qu med cs : Nat) (sv0 : Value) (ul tm hd up wy sd il : Int32) (hd0 : h dk = some (.inr (5, [.ref qu, .ref med, .ref cs, sv0, .int ul, .int tm, .int hd, .int up, .int wy, .int sd, .int il]))) (t : Int32) (side : Int32) (hside : side = 0 ∨ side = 1 ∨ side = 2 ∨ side = 3) : fh_Met l y_DK_tracksAway w_DK_tracksAway ({ frames := 1, cells := 0, slots := 0, locals := 14 }) E [.ref dk, .int t, .int side] h (fun r h1 => r = some (.int (tA side t hd)) ∧ h1 = h) 0 0 := by
  refine fh_ofW (cc := b_DK_tracksAway) (maxL := 3) (ret := (some .int)) (by decide) rfl (Nat.le_of_ble_eq_true rfl) ?_
  intro p e s m below meth c A ls hx hb hr hml hown hts hlocks hname hnoh hadm hA hK hZ hP hS hl
  have hG : ∀ w ∈ G, w.before _ s = true := fun w hw => hts w (List.mem_cons_of_mem _ hw)
  have hown : s.vm.findClass R_DK = some m.cls := hown
  have hl : lv_has ls 3 [(0, .ref dk), (1, .int t), (2, .int side)] := hl
  rcases hside with rfl | rfl | rfl | rfl
  · skip
    refine lv_iload_n hx hb d_DK_tracksAway_0 rfl (lv_at hl 2 rfl) ?_
    refine lv_tableOut (tgt := 44) hx hb d_DK_tracksAway_1 (by decide) (by decide) ?_
    refine lv_iload_n hx hb d_DK_tracksAway_44 rfl (lv_at hl 1 rfl) ?_
    refine lv_aload_n hx hb d_DK_tracksAway_45 rfl (lv_at hl 0 rfl) ?_
    refine fh_get hx hb hG C_DK iG_DK hown hK hP hd0 6 (by decide) gm97 rfl d_DK_tracksAway_46 ?_
    refine lv_isub hx hb d_DK_tracksAway_49 ?_
    refine va_mabs hx hb (hml.trans hl.1.symm) hown (hG _ gm222) (hG _ gm223) (hG _ gm19) (hG _ gm224) (Nat.le_of_ble_eq_true rfl) (Nat.le_of_ble_eq_true rfl) (Nat.le_of_ble_eq_true rfl) (Nat.le_of_ble_eq_true rfl) d_DK_tracksAway_50 ?_
    refine W.eq (g2 := F0 m 53 ls [.int (if 0 ≤ t - hd then t - hd else 0 - (t - hd))]) (rfl) ?_
    exact fh_iret hx hb hr hlocks (Nat.le_of_ble_eq_true rfl) (Nat.le_of_ble_eq_true rfl) hP hS ⟨rfl, rfl⟩ d_DK_tracksAway_53
  · skip
    refine lv_iload_n hx hb d_DK_tracksAway_0 rfl (lv_at hl 2 rfl) ?_
    refine lv_tableIn (tgt := 28) hx hb d_DK_tracksAway_1 (by decide) (by decide) (off := 27) rfl (by decide) ?_
    refine lv_iload_n hx hb d_DK_tracksAway_28 rfl (lv_at hl 1 rfl) ?_
    refine lv_aload_n hx hb d_DK_tracksAway_29 rfl (lv_at hl 0 rfl) ?_
    refine fh_get hx hb hG C_DK iG_DK hown hK hP hd0 6 (by decide) gm97 rfl d_DK_tracksAway_30 ?_
    refine lv_isub hx hb d_DK_tracksAway_33 ?_
    exact fh_iret hx hb hr hlocks (Nat.le_of_ble_eq_true rfl) (Nat.le_of_ble_eq_true rfl) hP hS ⟨rfl, rfl⟩ d_DK_tracksAway_34
  · skip
    refine lv_iload_n hx hb d_DK_tracksAway_0 rfl (lv_at hl 2 rfl) ?_
    refine lv_tableIn (tgt := 35) hx hb d_DK_tracksAway_1 (by decide) (by decide) (off := 34) rfl (by decide) ?_
    refine lv_aload_n hx hb d_DK_tracksAway_35 rfl (lv_at hl 0 rfl) ?_
    refine fh_get hx hb hG C_DK iG_DK hown hK hP hd0 6 (by decide) gm97 rfl d_DK_tracksAway_36 ?_
    refine lv_iload_n hx hb d_DK_tracksAway_39 rfl (lv_at hl 1 rfl) ?_
    refine lv_isub hx hb d_DK_tracksAway_40 ?_
    exact fh_iret hx hb hr hlocks (Nat.le_of_ble_eq_true rfl) (Nat.le_of_ble_eq_true rfl) hP hS ⟨rfl, rfl⟩ d_DK_tracksAway_41
  · skip
    refine lv_iload_n hx hb d_DK_tracksAway_0 rfl (lv_at hl 2 rfl) ?_
    refine lv_tableIn (tgt := 42) hx hb d_DK_tracksAway_1 (by decide) (by decide) (off := 41) rfl (by decide) ?_
    refine lv_iload_n hx hb d_DK_tracksAway_42 rfl (lv_at hl 1 rfl) ?_
    exact fh_iret hx hb hr hlocks (Nat.le_of_ble_eq_true rfl) (Nat.le_of_ble_eq_true rfl) hP hS ⟨rfl, rfl⟩ d_DK_tracksAway_43

set_option maxHeartbeats 4000000 in
set_option maxRecDepth 100000 in
theorem c_DK_nearestPlace (l : Launch) (E : fh_E) (h : fh_H) (dk qu med cs : Nat) (sv0 : Value) (ul tm hd up wy sd il : Int32) (hd0 : h dk = some (.inr (5, [.ref qu, .ref med, .ref cs, sv0, .int ul, .int tm, .int hd, .int up, .int wy, .int sd, .int il]))) (qal qarr : Nat) (rqs : List tQ) (hQ : QLs E h qu qal qarr rqs) (hq48 : rqs.length ≤ 48) (side : Int32) (hside : side = 0 ∨ side = 1 ∨ side = 2 ∨ side = 3) : fh_Met l y_DK_nearestPlace w_DK_nearestPlace ({ frames := 4, cells := 0, slots := 0, locals := 88 }) E [.ref dk, .int side] h (fun r h1 => r = some (.int (pl (nearN (rqs.map (·.2)) (fA side hd) rqs.length))) ∧ h1 = h) 0 0 := by
  refine fh_ofW (cc := b_DK_nearestPlace) (maxL := 7) (ret := (some .int)) (by decide) rfl (Nat.le_of_ble_eq_true rfl) ?_
  intro p e s m below meth c A ls hx hb hr hml hown hts hlocks hname hnoh hadm hA hK hZ hP hS hl
  have hG : ∀ w ∈ G, w.before _ s = true := fun w hw => hts w (List.mem_cons_of_mem _ hw)
  have hown : s.vm.findClass R_DK = some m.cls := hown
  have hl : lv_has ls 7 [(0, .ref dk), (1, .int side)] := hl
  have hQ0 := hQ
  obtain ⟨kq, hL, hP1⟩ := hQ
  refine lv_iconst (v := (-1)) hx hb d_DK_nearestPlace_0 (by decide) ?_
  refine lv_istore_n (lv' := [(2, .int (-1)), (0, .ref dk), (1, .int side)]) hx hb d_DK_nearestPlace_1 rfl hl (by decide) rfl (fun ls hl => ?_)
  refine lv_iconst (v := 0) hx hb d_DK_nearestPlace_2 (by decide) ?_
  refine lv_istore_n (lv' := [(3, .int 0), (2, .int (-1)), (0, .ref dk), (1, .int side)]) hx hb d_DK_nearestPlace_3 rfl hl (by decide) rfl (fun ls hl => ?_)
  refine lv_iconst (v := 0) hx hb d_DK_nearestPlace_4 (by decide) ?_
  refine lv_istore (lv' := [(4, .int 0), (3, .int 0), (2, .int (-1)), (0, .ref dk), (1, .int side)]) hx hb d_DK_nearestPlace_5 hl (by decide) rfl (fun ls hl => ?_)
  have hlen : (rqs.map (·.2)).length = rqs.length := List.length_map _
  have loop : ∀ (n i : Nat) (best : Option Nat) (least : Int32) (H : Heap) (locs : List Loc) (ls : Array Slot), i + n = rqs.length → nearN (rqs.map (·.2)) (fA side hd) i = best → (∀ j s, best = some j → (rqs.map (·.2))[j]? = some s → least = fA side hd s.2.2.1) → lv_has ls 7 [(4, .int (nI i)), (3, .int least), (2, .int (pl best)), (0, .ref dk), (1, .int side)] → fh_P E.1 vwCl A h H → va_S A s.heap H locs → W p l e ({ frames := 4, cells := 0, slots := 0, locals := 88 }) s m ([.ref dk, .int side] : List Value).toArray below meth c H locs 0 0 (MQ below (fh_Post E (fun r h1 => r = some (.int (pl (nearN (rqs.map (·.2)) (fA side hd) rqs.length))) ∧ h1 = h) A) ([.ref dk, .int side] : List Value).toArray s 0 0 A) (F0 m 7 ls []) := by
    intro n
    induction n with
    | zero =>
      intro i best least H locs ls hin hbest hleast hl hP hS
      refine lv_iload hx hb d_DK_nearestPlace_7 (lv_at hl 0 rfl) ?_
      refine lv_aload_n hx hb d_DK_nearestPlace_9 rfl (lv_at hl 3 rfl) ?_
      refine fh_get hx hb hG C_DK iG_DK hown hK hP hd0 0 (by decide) gm87 rfl d_DK_nearestPlace_10 ?_
      refine fh_callV (C := R_QU) (y := y_QU_size) (bytes := b_QU_size) (maxL := 1) (ret := (some .int)) (index := 41) (As := []) (rest := [.int (nI i)]) ⟨hx, hb, hml, hown, hG⟩ (c_QU_size l E h qu qal qarr rqs hQ0 hq48) (cwV 0 hG (gV gm160 gm161 gm162 gm7 gm163) rfl rfl rfl ⟨rfl, hdy_QU_size⟩ ⟨Nat.le_of_ble_eq_true rfl, Nat.le_of_ble_eq_true rfl⟩) C_QU.1 kq hK hZ hP hS hA rfl hl.1 rfl (Nat.le_of_ble_eq_true rfl) d_DK_nearestPlace_13 ⟨Nat.le_of_ble_eq_true rfl, Nat.le_of_ble_eq_true rfl⟩ (fun r h1 H locs hq9 hP hS => ?_)
      obtain ⟨rfl, e9⟩ := hq9
      rw [e9] at hP
      refine W.eq (g2 := F0 m 16 ls [.int (nI rqs.length), .int (nI i)]) rfl ?_
      refine lv_icmp_ge (tgt := 90) hx hb d_DK_nearestPlace_16 (by decide) (fun c_1 => ?_) (fun c_1 => ?_)
      · skip
        refine lv_iload_n hx hb d_DK_nearestPlace_90 rfl (lv_at hl 2 rfl) ?_
        exact fh_iret hx hb hr hlocks (Nat.le_of_ble_eq_true rfl) (Nat.le_of_ble_eq_true rfl) hP hS ⟨by rw [← hbest, show i = rqs.length by omega], rfl⟩ d_DK_nearestPlace_91
      · exact absurd (nI_le (by omega) (by omega)) c_1
    | succ n ih =>
      intro i best least H locs ls hin hbest hleast hl hP hS
      refine lv_iload hx hb d_DK_nearestPlace_7 (lv_at hl 0 rfl) ?_
      refine lv_aload_n hx hb d_DK_nearestPlace_9 rfl (lv_at hl 3 rfl) ?_
      refine fh_get hx hb hG C_DK iG_DK hown hK hP hd0 0 (by decide) gm87 rfl d_DK_nearestPlace_10 ?_
      refine fh_callV (C := R_QU) (y := y_QU_size) (bytes := b_QU_size) (maxL := 1) (ret := (some .int)) (index := 41) (As := []) (rest := [.int (nI i)]) ⟨hx, hb, hml, hown, hG⟩ (c_QU_size l E h qu qal qarr rqs hQ0 hq48) (cwV 0 hG (gV gm160 gm161 gm162 gm7 gm163) rfl rfl rfl ⟨rfl, hdy_QU_size⟩ ⟨Nat.le_of_ble_eq_true rfl, Nat.le_of_ble_eq_true rfl⟩) C_QU.1 kq hK hZ hP hS hA rfl hl.1 rfl (Nat.le_of_ble_eq_true rfl) d_DK_nearestPlace_13 ⟨Nat.le_of_ble_eq_true rfl, Nat.le_of_ble_eq_true rfl⟩ (fun r h1 H locs hq9 hP hS => ?_)
      obtain ⟨rfl, e9⟩ := hq9
      rw [e9] at hP
      refine W.eq (g2 := F0 m 16 ls [.int (nI rqs.length), .int (nI i)]) rfl ?_
      refine lv_icmp_ge (tgt := 90) hx hb d_DK_nearestPlace_16 (by decide) (fun c_2 => ?_) (fun c_2 => ?_)
      · exact absurd ((nI_leI (by omega) (by omega)).mp c_2) (by omega)
      · obtain ⟨c0, hc0⟩ := mp_get (xs := rqs) (i := i) (by omega)
        have kc := hP1 c0 (List.mem_of_getElem? hc0)
        have hs9 : nearN (rqs.map (·.2)) (fA side hd) (i + 1) = nearF (rqs.map (·.2)) (fA side hd) best i := by rw [← hbest]; rfl
        unfold nearF at hs9
        rw [rq_at hc0] at hs9
        simp only [] at hs9
        refine lv_aload_n hx hb d_DK_nearestPlace_19 rfl (lv_at hl 3 rfl) ?_
        refine fh_get hx hb hG C_DK iG_DK hown hK hP hd0 0 (by decide) gm87 rfl d_DK_nearestPlace_20 ?_
        refine lv_iload hx hb d_DK_nearestPlace_23 (lv_at hl 0 rfl) ?_
        refine fh_callV (C := R_QU) (y := y_QU_at) (bytes := b_QU_at) (maxL := 2) (ret := (some (.object "BlockLayer$Request"))) (index := 134) (As := [.int (nI i)]) (rest := []) ⟨hx, hb, hml, hown, hG⟩ (c_QU_at l E h qu qal qarr rqs hQ0 hq48 (nI i)) (cwV 1 hG (gV gm180 gm181 gm182 gm7 gm183) rfl rfl rfl ⟨rfl, hdy_QU_at⟩ ⟨Nat.le_of_ble_eq_true rfl, Nat.le_of_ble_eq_true rfl⟩) C_QU.1 kq hK hZ hP hS hA rfl hl.1 rfl (Nat.le_of_ble_eq_true rfl) d_DK_nearestPlace_25 ⟨Nat.le_of_ble_eq_true rfl, Nat.le_of_ble_eq_true rfl⟩ (fun r h1 H locs hq9 hP hS => ?_)
        obtain ⟨rfl, e9⟩ := hq9
        rw [e9] at hP
        refine W.eq (g2 := F0 m 28 ls [va_rf ((atI rqs (nI i)).map (·.1))]) rfl ?_
        refine W.eq (g2 := F0 m 28 ls [.ref c0.1]) (by rw [atI_nI (by omega), hc0]; rfl) ?_
        refine lv_astore (lv' := [(5, .ref c0.1), (4, .int (nI i)), (3, .int least), (2, .int (pl best)), (0, .ref dk), (1, .int side)]) hx hb d_DK_nearestPlace_28 hl (by decide) rfl (fun ls hl => ?_)
        refine lv_aload hx hb d_DK_nearestPlace_30 (lv_at hl 0 rfl) ?_
        refine lv_ifnull hx hb d_DK_nearestPlace_32 ?_
        refine lv_aload_n hx hb d_DK_nearestPlace_35 rfl (lv_at hl 4 rfl) ?_
        refine fh_get hx hb hG C_DK iG_DK hown hK hP hd0 0 (by decide) gm87 rfl d_DK_nearestPlace_36 ?_
        refine lv_iload hx hb d_DK_nearestPlace_39 (lv_at hl 1 rfl) ?_
        refine fh_callV (C := R_QU) (y := y_QU_isReady) (bytes := b_QU_isReady) (maxL := 5) (ret := (some .boolean)) (index := 150) (As := [.int (nI i)]) (rest := []) ⟨hx, hb, hml, hown, hG⟩ (c_QU_isReady l E h qu qal qarr rqs hQ0 hq48 i c0 hc0) (cwV 1 hG (gV gm211 gm212 gm213 gm7 gm214) rfl rfl rfl ⟨rfl, hdy_QU_isReady⟩ ⟨Nat.le_of_ble_eq_true rfl, Nat.le_of_ble_eq_true rfl⟩) C_QU.1 kq hK hZ hP hS hA rfl hl.1 rfl (Nat.le_of_ble_eq_true rfl) d_DK_nearestPlace_41 ⟨Nat.le_of_ble_eq_true rfl, Nat.le_of_ble_eq_true rfl⟩ (fun r h1 H locs hq9 hP hS => ?_)
        obtain ⟨rfl, e9⟩ := hq9
        rw [e9] at hP
        refine W.eq (g2 := F0 m 44 ls [.int (if rdy (rqs.map (·.2)) i = true then 1 else 0)]) rfl ?_
        refine lv_if_eq (tgt := 84) hx hb d_DK_nearestPlace_44 (by decide) (fun c_3 => ?_) (fun c_3 => ?_)
        · skip
          have hnr : ¬ rdy (rqs.map (·.2)) i = true := fun z => absurd c_3 (by rw [if_pos z]; decide)
          refine lv_iinc (v := ((nI i)) + 1) (lv' := [(4, .int (((nI i)) + 1)), (5, .ref c0.1), (3, .int least), (2, .int (pl best)), (0, .ref dk), (1, .int side)]) hx hb d_DK_nearestPlace_84 hl (k := 1) rfl rfl (by decide) rfl (fun ls hl => ?_)
          refine lv_goto (tgt := 7) hx hb d_DK_nearestPlace_87 (by decide) ?_
          exact ih (i + 1) best least _ _ _ (by omega) (by rw [hs9, if_neg (fun z => hnr z.1)]) (hleast) (by rw [← nI_1]; exact lv_sub hl [0, 2, 3, 4, 5] rfl) hP hS
        · skip
          have hrd : rdy (rqs.map (·.2)) i = true := Decidable.byContradiction (fun z => c_3 (by rw [if_neg z]))
          refine lv_aload_n hx hb d_DK_nearestPlace_47 rfl (lv_at hl 4 rfl) ?_
          refine lv_aload hx hb d_DK_nearestPlace_48 (lv_at hl 0 rfl) ?_
          refine fh_get hx hb hG C_RQ iG_RQ hown hK hP kc 2 (by decide) gm560 rfl d_DK_nearestPlace_50 ?_
          refine fh_callSN (y := y_BL_trackOf) (bytes := b_BL_trackOf) (maxL := 1) (ret := (some .int)) (index := 106) (host := "BlockLayer") (As := [.int c0.2.2.2.1]) (rest := [.ref dk]) ⟨hx, hb, hml, hown, hG⟩ (c_BL_trackOf l E h c0.2.2.2.1) ⟨va_cnB 1 hG (gB gm217) rfl rfl rfl (fhN hZ (.methodLinkNest "BlockLayer$Disk" 106 y_BL_trackOf "BlockLayer") (by simp [fhNest])) (hG _ gm1) hdy_BL_trackOf ⟨Nat.le_of_ble_eq_true rfl, Nat.le_of_ble_eq_true rfl⟩, hG _ gm216, trivial⟩ hK hZ hP hS hA rfl hl.1 rfl (Nat.le_of_ble_eq_true rfl) d_DK_nearestPlace_53 ⟨Nat.le_of_ble_eq_true rfl, Nat.le_of_ble_eq_true rfl⟩ (fun r h1 H locs hq9 hP hS => ?_)
          obtain ⟨rfl, e9⟩ := hq9
          rw [e9] at hP
          refine W.eq (g2 := F0 m 56 ls [.int (c0.2.2.2.1 / 8), .ref dk]) rfl ?_
          refine lv_iload_n hx hb d_DK_nearestPlace_56 rfl (lv_at hl 5 rfl) ?_
          refine fh_callV (C := R_DK) (y := y_DK_tracksAway) (bytes := b_DK_tracksAway) (maxL := 3) (ret := (some .int)) (index := 154) (As := [.int (c0.2.2.2.1 / 8), .int side]) (rest := []) ⟨hx, hb, hml, hown, hG⟩ (c_DK_tracksAway l E h dk qu med cs sv0 ul tm hd up wy sd il hd0 (c0.2.2.2.1 / 8) side hside) (cwV 2 hG (gV gm218 gm220 gs_DK_tracksAway gm6 gm221) rfl rfl rfl ⟨rfl, hdy_DK_tracksAway⟩ ⟨Nat.le_of_ble_eq_true rfl, Nat.le_of_ble_eq_true rfl⟩) C_DK.1 hd0 hK hZ hP hS hA rfl hl.1 rfl (Nat.le_of_ble_eq_true rfl) d_DK_nearestPlace_57 ⟨Nat.le_of_ble_eq_true rfl, Nat.le_of_ble_eq_true rfl⟩ (fun r h1 H locs hq9 hP hS => ?_)
          obtain ⟨rfl, e9⟩ := hq9
          rw [e9] at hP
          refine W.eq (g2 := F0 m 60 ls [.int (tA side (c0.2.2.2.1 / 8) hd)]) rfl ?_
          refine W.eq (g2 := F0 m 60 ls [.int (fA side hd c0.2.2.2.1)]) (rfl) ?_
          refine lv_istore (lv' := [(6, .int (fA side hd c0.2.2.2.1)), (5, .ref c0.1), (4, .int (nI i)), (3, .int least), (2, .int (pl best)), (0, .ref dk), (1, .int side)]) hx hb d_DK_nearestPlace_60 hl (by decide) rfl (fun ls hl => ?_)
          refine lv_iload hx hb d_DK_nearestPlace_62 (lv_at hl 0 rfl) ?_
          refine lv_if_lt (tgt := 84) hx hb d_DK_nearestPlace_64 (by decide) (fun c_4 => ?_) (fun c_4 => ?_)
          · skip
            refine lv_iinc (v := ((nI i)) + 1) (lv' := [(4, .int (((nI i)) + 1)), (6, .int (fA side hd c0.2.2.2.1)), (5, .ref c0.1), (3, .int least), (2, .int (pl best)), (0, .ref dk), (1, .int side)]) hx hb d_DK_nearestPlace_84 hl (k := 2) rfl rfl (by decide) rfl (fun ls hl => ?_)
            refine lv_goto (tgt := 7) hx hb d_DK_nearestPlace_87 (by decide) ?_
            exact ih (i + 1) best least _ _ _ (by omega) (by rw [hs9, if_neg (fun z => z.2 c_4)]) (hleast) (by rw [← nI_1]; exact lv_sub hl [0, 3, 4, 5, 6] rfl) hP hS
          · skip
            refine lv_iload_n hx hb d_DK_nearestPlace_67 rfl (lv_at hl 4 rfl) ?_
            refine lv_iconst (v := (-1)) hx hb d_DK_nearestPlace_68 (by decide) ?_
            refine lv_icmp_eq (tgt := 78) hx hb d_DK_nearestPlace_69 (by decide) (fun c_5 => ?_) (fun c_5 => ?_)
            · skip
              have hbn : best = none := by
                rcases best with _ | j
                · rfl
                · exact absurd c_5 (pl_ne (by have := (nearN_lt _ _ _ _ hbest).2; omega))
              subst hbn
              refine lv_iload hx hb d_DK_nearestPlace_78 (lv_at hl 2 rfl) ?_
              refine lv_istore_n (lv' := [(2, .int (nI i)), (6, .int (fA side hd c0.2.2.2.1)), (5, .ref c0.1), (4, .int (nI i)), (3, .int least), (0, .ref dk), (1, .int side)]) hx hb d_DK_nearestPlace_80 rfl hl (by decide) rfl (fun ls hl => ?_)
              refine lv_iload hx hb d_DK_nearestPlace_81 (lv_at hl 1 rfl) ?_
              refine lv_istore_n (lv' := [(3, .int (fA side hd c0.2.2.2.1)), (2, .int (nI i)), (6, .int (fA side hd c0.2.2.2.1)), (5, .ref c0.1), (4, .int (nI i)), (0, .ref dk), (1, .int side)]) hx hb d_DK_nearestPlace_83 rfl hl (by decide) rfl (fun ls hl => ?_)
              refine lv_iinc (v := ((nI i)) + 1) (lv' := [(4, .int (((nI i)) + 1)), (3, .int (fA side hd c0.2.2.2.1)), (2, .int (nI i)), (6, .int (fA side hd c0.2.2.2.1)), (5, .ref c0.1), (0, .ref dk), (1, .int side)]) hx hb d_DK_nearestPlace_84 hl (k := 4) rfl rfl (by decide) rfl (fun ls hl => ?_)
              refine lv_goto (tgt := 7) hx hb d_DK_nearestPlace_87 (by decide) ?_
              exact ih (i + 1) (some i) _ _ _ _ (by omega) (by rw [hs9, if_pos ⟨hrd, c_4⟩]) (fun j s z1 z2 => by cases z1; rw [rq_at hc0] at z2; cases z2; rfl) (by rw [← nI_1]; exact lv_sub hl [0, 1, 2, 5, 6] rfl) hP hS
            · skip
              obtain ⟨j, hj⟩ : ∃ j, best = some j := by
                rcases best with _ | j
                · exact absurd rfl c_5
                · exact ⟨j, rfl⟩
              subst hj
              have hjl := (nearN_lt _ _ _ _ hbest).2
              obtain ⟨s9, hs0⟩ := mp_get hjl
              have hls := hleast j s9 rfl hs0
              subst hls
              refine lv_iload hx hb d_DK_nearestPlace_72 (lv_at hl 0 rfl) ?_
              refine lv_iload_n hx hb d_DK_nearestPlace_74 rfl (lv_at hl 3 rfl) ?_
              refine lv_icmp_ge (tgt := 84) hx hb d_DK_nearestPlace_75 (by decide) (fun c_6 => ?_) (fun c_6 => ?_)
              · skip
                refine lv_iinc (v := ((nI i)) + 1) (lv' := [(4, .int (((nI i)) + 1)), (6, .int (fA side hd c0.2.2.2.1)), (5, .ref c0.1), (3, .int (fA side hd s9.2.2.1)), (2, .int (pl (some j))), (0, .ref dk), (1, .int side)]) hx hb d_DK_nearestPlace_84 hl (k := 2) rfl rfl (by decide) rfl (fun ls hl => ?_)
                refine lv_goto (tgt := 7) hx hb d_DK_nearestPlace_87 (by decide) ?_
                exact ih (i + 1) (some j) _ _ _ _ (by omega) (by rw [hs9, if_pos ⟨hrd, c_4⟩]; simp only []; rw [hs0]; simp only []; rw [if_neg (Int32.not_lt.mpr c_6)]) (hleast) (by rw [← nI_1]; exact lv_sub hl [0, 3, 4, 5, 6] rfl) hP hS
              · skip
                refine lv_iload hx hb d_DK_nearestPlace_78 (lv_at hl 2 rfl) ?_
                refine lv_istore_n (lv' := [(2, .int (nI i)), (6, .int (fA side hd c0.2.2.2.1)), (5, .ref c0.1), (4, .int (nI i)), (3, .int (fA side hd s9.2.2.1)), (0, .ref dk), (1, .int side)]) hx hb d_DK_nearestPlace_80 rfl hl (by decide) rfl (fun ls hl => ?_)
                refine lv_iload hx hb d_DK_nearestPlace_81 (lv_at hl 1 rfl) ?_
                refine lv_istore_n (lv' := [(3, .int (fA side hd c0.2.2.2.1)), (2, .int (nI i)), (6, .int (fA side hd c0.2.2.2.1)), (5, .ref c0.1), (4, .int (nI i)), (0, .ref dk), (1, .int side)]) hx hb d_DK_nearestPlace_83 rfl hl (by decide) rfl (fun ls hl => ?_)
                refine lv_iinc (v := ((nI i)) + 1) (lv' := [(4, .int (((nI i)) + 1)), (3, .int (fA side hd c0.2.2.2.1)), (2, .int (nI i)), (6, .int (fA side hd c0.2.2.2.1)), (5, .ref c0.1), (0, .ref dk), (1, .int side)]) hx hb d_DK_nearestPlace_84 hl (k := 4) rfl rfl (by decide) rfl (fun ls hl => ?_)
                refine lv_goto (tgt := 7) hx hb d_DK_nearestPlace_87 (by decide) ?_
                exact ih (i + 1) (some i) _ _ _ _ (by omega) (by rw [hs9, if_pos ⟨hrd, c_4⟩]; simp only []; rw [hs0]; simp only []; rw [if_pos (Int32.not_le.mp c_6)]) (fun j s z1 z2 => by cases z1; rw [rq_at hc0] at z2; cases z2; rfl) (by rw [← nI_1]; exact lv_sub hl [0, 1, 2, 5, 6] rfl) hP hS
  exact loop rqs.length 0 none 0 _ _ _ (by omega) rfl (fun j s z => by cases z) (by rw [nI_0]; exact hl) hP hS
