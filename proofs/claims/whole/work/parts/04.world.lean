/-! THE WORLD AS A FUNCTION: what cell lies at an address. It is held by a list of cells as the kit has them; every row here is a row of the kit, read through that list. -/
abbrev fh_H : Type := Nat → Option va_E
def fh_V (w : va_W) (h : fh_H) : Prop := ∀ (a : Nat) (e : va_E), h a = some e ↔ ∃ k : Nat, w[k]? = some (a, e)
def fh_P (D : va_G) (cl : List vw_C) (A : Nat → Prop) (h : fh_H) (H : Heap) : Prop := ∃ w : va_W, va_P D cl w H ∧ va_D A w ∧ fh_V w h
/-- what a method may change: the cells of its world, and those that it makes -/
def fh_A (h : fh_H) (sz : Nat) : Nat → Prop := fun q => (∃ e, h q = some e) ∨ sz ≤ q
theorem fh_V.set {A : Nat → Prop} {w : va_W} {h : fh_H} {a k : Nat} {e e' : va_E} (hD : va_D A w) (hV : fh_V w h) (hk : w[k]? = some (a, e)) : fh_V (w.set k (a, e')) (va_up h a (some e')) := by
  have hl := (List.getElem?_eq_some_iff.mp hk).1
  intro b x
  constructor
  · intro hb
    by_cases c : b = a
    · subst c
      rw [va_up_self] at hb
      cases hb
      exact ⟨k, List.getElem?_set_self hl⟩
    · rw [va_up_ne _ _ c] at hb
      obtain ⟨j, hj⟩ := (hV b x).mp hb
      have hjk : j ≠ k := by
        intro z
        rw [z, hk] at hj
        exact c (congrArg Prod.fst (Option.some.inj hj)).symm
      exact ⟨j, by rw [List.getElem?_set_ne (Ne.symm hjk)]; exact hj⟩
  · intro ⟨j, hj⟩
    by_cases c : j = k
    · rw [c, List.getElem?_set_self hl] at hj
      cases hj
      exact va_up_self _ _ _
    · rw [List.getElem?_set_ne (Ne.symm c)] at hj
      have hba : b ≠ a := fun z => c (hD.1 j k (b, x) (a, e) hj hk z)
      rw [va_up_ne _ _ hba]
      exact (hV b x).mpr ⟨j, hj⟩
theorem fh_V.push {A : Nat → Prop} {w : va_W} {h : fh_H} {q : Nat} {e : va_E} (hD : va_D A (w ++ [(q, e)])) (hV : fh_V w h) : fh_V (w ++ [(q, e)]) (va_up h q (some e)) ∧ h q = none := by
  have hlast : (w ++ [(q, e)])[w.length]? = some (q, e) := by simp
  have hold : ∀ (j : Nat) (x : Nat × va_E), w[j]? = some x → (w ++ [(q, e)])[j]? = some x := fun j x hj => by
    rw [List.getElem?_append_left (List.getElem?_eq_some_iff.mp hj).1]; exact hj
  have hnew : ∀ (j : Nat) (x : va_E), w[j]? = some (q, x) → False := fun j x hj => by
    have hl := (List.getElem?_eq_some_iff.mp hj).1
    have := hD.1 j w.length _ _ (hold j _ hj) hlast rfl
    omega
  refine ⟨fun b x => ⟨fun hb => ?_, fun ⟨j, hj⟩ => ?_⟩, ?_⟩
  · by_cases c : b = q
    · subst c
      rw [va_up_self] at hb
      cases hb
      exact ⟨_, hlast⟩
    · rw [va_up_ne _ _ c] at hb
      obtain ⟨j, hj⟩ := (hV b x).mp hb
      exact ⟨j, hold j _ hj⟩
  · by_cases c : j < w.length
    · rw [List.getElem?_append_left c] at hj
      have hbq : b ≠ q := fun z => hnew j x (by rw [← z]; exact hj)
      rw [va_up_ne _ _ hbq]
      exact (hV b x).mpr ⟨j, hj⟩
    · rw [List.getElem?_append_right (by omega)] at hj
      have hz : j - w.length < 1 := (List.getElem?_eq_some_iff.mp hj).1
      have hj0 : j - w.length = 0 := by omega
      rw [hj0] at hj
      cases hj
      exact va_up_self _ _ _
  · cases hq : h q with
    | none => rfl
    | some x =>
      obtain ⟨j, hj⟩ := (hV q x).mp hq
      exact (hnew j x hj).elim
section FHP
variable {D : va_G} {cl : List vw_C} {A B : Nat → Prop} {h : fh_H} {H H1 : Heap} {a : Nat} {e : va_E}
theorem fh_P.get (hP : fh_P D cl A h H) (ha : h a = some e) : va_at D cl (a, e) H ∧ A a := by
  obtain ⟨w, h1, h2, h3⟩ := hP
  obtain ⟨k, hk⟩ := (h3 a e).mp ha
  exact ⟨h1 k _ hk, h2.2 k _ hk⟩
theorem fh_P.lt (hP : fh_P D cl A h H) (ha : h a = some e) : a < H.size := (hP.get ha).1.lt
theorem fh_P.weaken (hP : fh_P D cl A h H) (hAB : ∀ q, (∃ e, h q = some e) → A q → B q) : fh_P D cl B h H := by
  obtain ⟨w, h1, h2, h3⟩ := hP
  exact ⟨w, h1, h2.weaken (fun k q hk hq => hAB q.1 ⟨q.2, (h3 q.1 q.2).mpr ⟨k, hk⟩⟩ hq), h3⟩
theorem fh_P.kept (hP : fh_P D cl A h H) (hq : ∀ q : Nat, (∃ e, h q = some e) → H1[q]? = H[q]?) : fh_P D cl A h H1 := by
  obtain ⟨w, h1, h2, h3⟩ := hP
  exact ⟨w, h1.kept (fun k q hk => hq q.1 ⟨q.2, (h3 q.1 q.2).mpr ⟨k, hk⟩⟩), h2, h3⟩
theorem fh_P.self (sz : Nat) (hP : fh_P D cl A h H) : fh_P D cl (fh_A h sz) h H := hP.weaken (fun _ hq _ => Or.inl hq)
theorem fh_ne {i j : Nat} {fs gs : List Value} {b : Nat} (ha : h a = some (.inr (i, fs))) (hb : h b = some (.inr (j, gs))) (hij : i ≠ j) : a ≠ b := by
  intro z
  rw [z, hb] at ha
  cases ha
  exact hij rfl
theorem fh_neA {j : Nat} {x : ClassId × vp_A} {gs : List Value} {b : Nat} (ha : h a = some (.inl x)) (hb : h b = some (.inr (j, gs))) : a ≠ b := by
  intro z
  rw [z, hb] at ha
  cases ha
theorem fh_neF {b : Nat} {x : va_E} (ha : h a = some x) (hb : h b = none) : a ≠ b := by
  intro z
  rw [z, hb] at ha
  cases ha
theorem fh_up {b : Nat} {x : Option va_E} {y : va_E} (hb : h b = some y) (hne : b ≠ a) : va_up h a x b = some y := by
  rw [va_up_ne _ _ hne]; exact hb
end FHP
section FHR
variable {p : Program} {l : Launch} {e : Env} {R : Room} {s : State} {m : MethodId} {args : Array Value} {below : List Frame} {meth : Method} {c : Code} {H : Heap} {locs : List Loc} {cells slots : Nat} {Q : State → Prop}
variable {cc : ByteArray} {pc : Nat} {ls : Array Slot} {rest : List Value} {D : va_G} {cl : List vw_C} {A : Nat → Prop} {a : Nat} {tys : List (ClassId × FieldType)} {h : fh_H} {H0 : Heap}
/-- a class as the tables have it: its place, its fields' table -/
def fh_C (cl : List vw_C) (ci : Nat) (C : String) (T : u_T) (N : Nat) (ty : Nat → FieldType) : Prop := cl[ci]? = some (C, T, N) ∧ (∀ k, k < N → parseFieldDescriptor (T k).2.2.1 = some (ty k)) ∧ (∀ a, a < N → ∀ b, b < N → a ≠ b → (T a).2.1 ≠ (T b).2.1)
theorem fh_get (hexec : p.tables.exec = Jvm.exec) (hb : c.code = cc) {own C : String} {T : u_T} {N ci index : Nat} {ty : Nat → FieldType} {Ts : List Cond} (hts : ∀ w ∈ Ts, w.before args s = true) (hC : fh_C cl ci C T N ty) (hin : ∀ w ∈ u_ws C T N, w ∈ Ts) (hown : s.vm.findClass own = some m.cls) (hK : va_K D cl tys s) (hP : fh_P D cl A h H) {fs : List Value} (he : h a = some (.inr (ci, fs))) (k : Nat) (hk : k < N) (hlink : Cond.fieldLink own index (T k).1 (T k).2.1 (T k).2.2.1 ∈ Ts) {v : Value} (hv : fs[k]? = some v) (hdg : decode cc pc = .ok (.getfield index, 3))
    (kk : W p l e R s m args below meth c H locs cells slots Q (F0 m (pc + 3) ls (v :: rest))) : W p l e R s m args below meth c H locs cells slots Q (F0 m pc ls (.ref a :: rest)) := by
  obtain ⟨w, h1, h2, h3⟩ := hP
  obtain ⟨q0, hq⟩ := (h3 a _).mp he
  exact va_get hexec hb hts hin hown hK h1 q0 hq hC.1 k hk (hts _ hlink) (fun _ z => z) hv hdg kk
theorem fh_getN (hexec : p.tables.exec = Jvm.exec) (hb : c.code = cc) {own C host : String} {T : u_T} {N ci index : Nat} {ty : Nat → FieldType} {Ts : List Cond} (hts : ∀ w ∈ Ts, w.before args s = true) (hC : fh_C cl ci C T N ty) (hin : ∀ w ∈ u_ws C T N, w ∈ Ts) (hown : s.vm.findClass own = some m.cls) (hK : va_K D cl tys s) (hP : fh_P D cl A h H) {fs : List Value} (he : h a = some (.inr (ci, fs))) (k : Nat) (hk : k < N) (hlink : (Cond.fieldLinkNest own index (T k).1 (T k).2.1 (T k).2.2.1 host).before args s = true) {v : Value} (hv : fs[k]? = some v) (hdg : decode cc pc = .ok (.getfield index, 3))
    (kk : W p l e R s m args below meth c H locs cells slots Q (F0 m (pc + 3) ls (v :: rest))) : W p l e R s m args below meth c H locs cells slots Q (F0 m pc ls (.ref a :: rest)) := by
  obtain ⟨w, h1, h2, h3⟩ := hP
  obtain ⟨q0, hq⟩ := (h3 a _).mp he
  exact va_getN hexec hb hts hin hown hK h1 q0 hq hC.1 k hk hlink (fun _ z => z) hv hdg kk
theorem fh_put (hexec : p.tables.exec = Jvm.exec) (hb : c.code = cc) {own C : String} {T : u_T} {N ci index : Nat} {ty : Nat → FieldType} {Ts : List Cond} (hts : ∀ w ∈ Ts, w.before args s = true) (hC : fh_C cl ci C T N ty) (hin : ∀ w ∈ u_ws C T N, w ∈ Ts) (hown : s.vm.findClass own = some m.cls) (hK : va_K D cl tys s) (hP : fh_P D cl A h H) (hS : va_S A H0 H locs) {fs : List Value} (he : h a = some (.inr (ci, fs))) (k : Nat) (hk : k < N) (hlink : Cond.fieldLink own index (T k).1 (T k).2.1 (T k).2.2.1 ∈ Ts) (hfin : (T k).2.2.2 = false) {v : Value} (hn : narrow (ty k) v = v) (hfit : fits (ty k) v = true) (hl : k < fs.length) (hdg : decode cc pc = .ok (.putfield index, 3))
    (kk : ∀ (H1 : Heap) (locs1 : List Loc), fh_P D cl A (va_up h a (some (.inr (ci, fs.set k v)))) H1 → va_S A H0 H1 locs1 → W p l e R s m args below meth c H1 locs1 cells slots Q (F0 m (pc + 3) ls rest)) : W p l e R s m args below meth c H locs cells slots Q (F0 m pc ls (v :: .ref a :: rest)) := by
  obtain ⟨w, h1, h2, h3⟩ := hP
  obtain ⟨q0, hq⟩ := (h3 a _).mp he
  exact va_put hexec hb hts hin ty hC.2.1 hC.2.2 hown hK h1 h2 hS q0 hq hC.1 k hk (hts _ hlink) (fun _ z => z) hfin (hC.2.1 k hk) hn hfit hl hdg (fun H1 locs1 g1 g2 g3 => kk H1 locs1 ⟨_, g1, g2, h3.set h2 hq⟩ g3)
theorem fh_putN (hexec : p.tables.exec = Jvm.exec) (hb : c.code = cc) {own C host : String} {T : u_T} {N ci index : Nat} {ty : Nat → FieldType} {Ts : List Cond} (hts : ∀ w ∈ Ts, w.before args s = true) (hC : fh_C cl ci C T N ty) (hin : ∀ w ∈ u_ws C T N, w ∈ Ts) (hown : s.vm.findClass own = some m.cls) (hK : va_K D cl tys s) (hP : fh_P D cl A h H) (hS : va_S A H0 H locs) {fs : List Value} (he : h a = some (.inr (ci, fs))) (k : Nat) (hk : k < N) (hlink : (Cond.fieldLinkNest own index (T k).1 (T k).2.1 (T k).2.2.1 host).before args s = true) (hfin : (T k).2.2.2 = false) {v : Value} (hn : narrow (ty k) v = v) (hfit : fits (ty k) v = true) (hl : k < fs.length) (hdg : decode cc pc = .ok (.putfield index, 3))
    (kk : ∀ (H1 : Heap) (locs1 : List Loc), fh_P D cl A (va_up h a (some (.inr (ci, fs.set k v)))) H1 → va_S A H0 H1 locs1 → W p l e R s m args below meth c H1 locs1 cells slots Q (F0 m (pc + 3) ls rest)) : W p l e R s m args below meth c H locs cells slots Q (F0 m pc ls (v :: .ref a :: rest)) := by
  obtain ⟨w, h1, h2, h3⟩ := hP
  obtain ⟨q0, hq⟩ := (h3 a _).mp he
  exact va_putN hexec hb hts hin ty hC.2.1 hC.2.2 hown hK h1 h2 hS q0 hq hC.1 k hk hlink (fun _ z => z) hfin (hC.2.1 k hk) hn hfit hl hdg (fun H1 locs1 g1 g2 g3 => kk H1 locs1 ⟨_, g1, g2, h3.set h2 hq⟩ g3)
theorem fh_putF (hexec : p.tables.exec = Jvm.exec) (hb : c.code = cc) {own C : String} {T : u_T} {N ci index : Nat} {ty : Nat → FieldType} {Ts : List Cond} (hts : ∀ w ∈ Ts, w.before args s = true) (hC : fh_C cl ci C T N ty) (hin : ∀ w ∈ u_ws C T N, w ∈ Ts) (hown : s.vm.findClass own = some m.cls) (hK : va_K D cl tys s) (hP : fh_P D cl A h H) (hS : va_S A H0 H locs) {fs : List Value} (he : h a = some (.inr (ci, fs))) (k : Nat) (hk : k < N) (hlink : Cond.fieldLink own index (T k).1 (T k).2.1 (T k).2.2.1 ∈ Ts) (hfin : (T k).2.2.2 = true) (hin2 : meth.name = "<init>") (hdecl : (T k).1 = own) {v : Value} (hn : narrow (ty k) v = v) (hfit : fits (ty k) v = true) (hl : k < fs.length) (hdg : decode cc pc = .ok (.putfield index, 3))
    (kk : ∀ (H1 : Heap) (locs1 : List Loc), fh_P D cl A (va_up h a (some (.inr (ci, fs.set k v)))) H1 → va_S A H0 H1 locs1 → W p l e R s m args below meth c H1 locs1 cells slots Q (F0 m (pc + 3) ls rest)) : W p l e R s m args below meth c H locs cells slots Q (F0 m pc ls (v :: .ref a :: rest)) := by
  obtain ⟨w, h1, h2, h3⟩ := hP
  obtain ⟨q0, hq⟩ := (h3 a _).mp he
  exact va_putF hexec hb hts hin ty hC.2.1 hC.2.2 hown hK h1 h2 hS q0 hq hC.1 k hk (hts _ hlink) (fun _ z => z) hfin hin2 hdecl (hC.2.1 k hk) hn hfit hl hdg (fun H1 locs1 g1 g2 g3 => kk H1 locs1 ⟨_, g1, g2, h3.set h2 hq⟩ g3)
theorem fh_new (hexec : p.tables.exec = Jvm.exec) (hb : c.code = cc) {own C : String} {T : u_T} {N ci index : Nat} {ty : Nat → FieldType} {Ts : List Cond} (hts : ∀ w ∈ Ts, w.before args s = true) (hC : fh_C cl ci C T N ty) (hin : ∀ w ∈ u_ws C T N, w ∈ Ts) (hown : s.vm.findClass own = some m.cls) (hcl : Cond.classLink own index C ∈ Ts) (hinst : Cond.instantiable C N ∈ Ts) (hini : Cond.initialized C ∈ Ts)
    (hK : va_K D cl tys s) (hP : fh_P D cl A h H) (hS : va_S A H0 H locs) (hA : ∀ q, H0.size ≤ q → A q) {fs : List Value} (hfs : ∀ j, j < N → defaultValue (ty j) = vp_V fs j) (hcells : cells + 1 ≤ R.cells) (hslots : slots + N ≤ R.slots) (hdg : decode cc pc = .ok (.new index, 3))
    (kk : ∀ (q : Nat) (H1 : Heap), h q = none → fh_P D cl A (va_up h q (some (.inr (ci, fs)))) H1 → va_S A H0 H1 locs → W p l e R s m args below meth c H1 locs (cells + 1) (slots + N) Q (F0 m (pc + 3) ls (.ref q :: rest))) : W p l e R s m args below meth c H locs cells slots Q (F0 m pc ls rest) := by
  obtain ⟨w, h1, h2, h3⟩ := hP
  exact va_new hexec hb hts hin ty hC.2.1 hown (hts _ hcl) (hts _ hinst) (hts _ hini) hK h1 h2 hS hA hC.1 hfs hcells hslots hdg (fun q H1 g1 g2 g3 => kk q H1 (h3.push g2).2 ⟨_, g1, g2, (h3.push g2).1⟩ g3)
theorem fh_recv (hK : va_K D cl tys s) (hP : fh_P D cl A h H) {ci : Nat} {q : vw_C} (hc : cl[ci]? = some q) {fs : List Value} (he : h a = some (.inr (ci, fs))) : ∃ cell : Cell, H[a]? = some cell ∧ cell.vm.isStatics = false ∧ s.vm.findClass q.1 = some cell.cls := by
  obtain ⟨w, h1, h2, h3⟩ := hP
  obtain ⟨q0, hq⟩ := (h3 a _).mp he
  exact va_recv hK h1 hc hq
theorem fh_iald (hexec : p.tables.exec = Jvm.exec) (hb : c.code = cc) (hK : va_K D cl tys s) (hP : fh_P D cl A h H) (t0 : Nat) {cA : ClassId} {n : Nat} {f : Nat → Int32} (ha : h a = some (.inl (cA, n, .inl f))) (ht : tys[t0]? = some (cA, .int)) {i : Int32} (hin : vp_in i n) (hdg : decode cc pc = .ok (.iaload, 1))
    (kk : W p l e R s m args below meth c H locs cells slots Q (F0 m (pc + 1) ls (.int (f i.toNatClampNeg) :: rest))) : W p l e R s m args below meth c H locs cells slots Q (F0 m pc ls (.int i :: .ref a :: rest)) := by
  obtain ⟨w, h1, h2, h3⟩ := hP
  obtain ⟨q0, hq⟩ := (h3 a _).mp ha
  exact va_iald hexec hb hK h1 q0 t0 hq ht hin hdg kk
theorem fh_iast (hexec : p.tables.exec = Jvm.exec) (hb : c.code = cc) (hK : va_K D cl tys s) (hP : fh_P D cl A h H) (hS : va_S A H0 H locs) (t0 : Nat) {cA : ClassId} {n : Nat} {f : Nat → Int32} (ha : h a = some (.inl (cA, n, .inl f))) (ht : tys[t0]? = some (cA, .int)) {i x : Int32} (hin : vp_in i n) (hdg : decode cc pc = .ok (.iastore, 1))
    (kk : ∀ (H1 : Heap) (locs1 : List Loc), fh_P D cl A (va_up h a (some (.inl (cA, n, .inl (upd f i.toNatClampNeg x))))) H1 → va_S A H0 H1 locs1 → W p l e R s m args below meth c H1 locs1 cells slots Q (F0 m (pc + 1) ls rest)) : W p l e R s m args below meth c H locs cells slots Q (F0 m pc ls (.int x :: .int i :: .ref a :: rest)) := by
  obtain ⟨w, h1, h2, h3⟩ := hP
  obtain ⟨q0, hq⟩ := (h3 a _).mp ha
  exact va_iast hexec hb hK h1 h2 hS q0 t0 hq ht hin hdg (fun H1 locs1 g1 g2 g3 => kk H1 locs1 ⟨_, g1, g2, h3.set h2 hq⟩ g3)
theorem fh_lald (hexec : p.tables.exec = Jvm.exec) (hb : c.code = cc) (hK : va_K D cl tys s) (hP : fh_P D cl A h H) (t0 : Nat) {cA : ClassId} {n : Nat} {f : Nat → Int64} (ha : h a = some (.inl (cA, n, .inr (.inl f)))) (ht : tys[t0]? = some (cA, .long)) {i : Int32} (hin : vp_in i n) (hdg : decode cc pc = .ok (.laload, 1))
    (kk : W p l e R s m args below meth c H locs cells slots Q (F0 m (pc + 1) ls (.long (f i.toNatClampNeg) :: rest))) : W p l e R s m args below meth c H locs cells slots Q (F0 m pc ls (.int i :: .ref a :: rest)) := by
  obtain ⟨w, h1, h2, h3⟩ := hP
  obtain ⟨q0, hq⟩ := (h3 a _).mp ha
  exact va_lald hexec hb hK h1 q0 t0 hq ht hin hdg kk
theorem fh_last (hexec : p.tables.exec = Jvm.exec) (hb : c.code = cc) (hK : va_K D cl tys s) (hP : fh_P D cl A h H) (hS : va_S A H0 H locs) (t0 : Nat) {cA : ClassId} {n : Nat} {f : Nat → Int64} (ha : h a = some (.inl (cA, n, .inr (.inl f)))) (ht : tys[t0]? = some (cA, .long)) {i : Int32} {x : Int64} (hin : vp_in i n) (hdg : decode cc pc = .ok (.lastore, 1))
    (kk : ∀ (H1 : Heap) (locs1 : List Loc), fh_P D cl A (va_up h a (some (.inl (cA, n, .inr (.inl (vp_updL f i.toNatClampNeg x)))))) H1 → va_S A H0 H1 locs1 → W p l e R s m args below meth c H1 locs1 cells slots Q (F0 m (pc + 1) ls rest)) : W p l e R s m args below meth c H locs cells slots Q (F0 m pc ls (.long x :: .int i :: .ref a :: rest)) := by
  obtain ⟨w, h1, h2, h3⟩ := hP
  obtain ⟨q0, hq⟩ := (h3 a _).mp ha
  exact va_last hexec hb hK h1 h2 hS q0 t0 hq ht hin hdg (fun H1 locs1 g1 g2 g3 => kk H1 locs1 ⟨_, g1, g2, h3.set h2 hq⟩ g3)
theorem fh_alen (hexec : p.tables.exec = Jvm.exec) (hb : c.code = cc) (hK : va_K D cl tys s) (hP : fh_P D cl A h H) (t0 : Nat) {cA : ClassId} {x : vp_A} (ha : h a = some (.inl (cA, x))) {ty : FieldType} (ht : tys[t0]? = some (cA, ty)) {v : Int32} (hv : Int32.ofNat x.1 = v) (hdg : decode cc pc = .ok (.arraylength, 1))
    (kk : W p l e R s m args below meth c H locs cells slots Q (F0 m (pc + 1) ls (.int v :: rest))) : W p l e R s m args below meth c H locs cells slots Q (F0 m pc ls (.ref a :: rest)) := by
  obtain ⟨w, h1, h2, h3⟩ := hP
  obtain ⟨q0, hq⟩ := (h3 a _).mp ha
  exact va_alen hexec hb hK h1 q0 t0 hq ht hv hdg kk
theorem fh_aldq (hexec : p.tables.exec = Jvm.exec) (hb : c.code = cc) (hK : va_K D cl tys s) (hP : fh_P D cl A h H) (t0 : Nat) {cA : ClassId} {C : String} {n : Nat} {f : Nat → Option Nat} (ha : h a = some (.inl (cA, n, .inr (.inr (.inr (.inr f)))))) (ht : tys[t0]? = some (cA, .object C)) {i : Int32} (hin : vp_in i n) (hdg : decode cc pc = .ok (.aaload, 1))
    (kk : W p l e R s m args below meth c H locs cells slots Q (F0 m (pc + 1) ls (va_rf (f i.toNatClampNeg) :: rest))) : W p l e R s m args below meth c H locs cells slots Q (F0 m pc ls (.int i :: .ref a :: rest)) := by
  obtain ⟨w, h1, h2, h3⟩ := hP
  obtain ⟨q0, hq⟩ := (h3 a _).mp ha
  exact va_aldq hexec hb hK h1 q0 t0 hq ht hin hdg kk
theorem fh_astqO (hexec : p.tables.exec = Jvm.exec) (hb : c.code = cc) (hK : va_K D cl tys s) (hP : fh_P D cl A h H) (hS : va_S A H0 H locs) (t0 ci : Nat) {E : String} {cA : ClassId} {r : vw_C} {n v : Nat} {vs : List Value} {f : Nat → Option Nat} (ha : h a = some (.inl (cA, n, .inr (.inr (.inr (.inr f)))))) (ht : tys[t0]? = some (cA, .object E)) (hca : va_Nw (.castable r.1 E) s) (hv : h v = some (.inr (ci, vs))) (hc : cl[ci]? = some r) {i : Int32} (hin : vp_in i n) (hdg : decode cc pc = .ok (.aastore, 1))
    (kk : ∀ (H1 : Heap) (locs1 : List Loc), fh_P D cl A (va_up h a (some (.inl (cA, n, .inr (.inr (.inr (.inr (va_up f i.toNatClampNeg (some v))))))))) H1 → va_S A H0 H1 locs1 → W p l e R s m args below meth c H1 locs1 cells slots Q (F0 m (pc + 1) ls rest)) : W p l e R s m args below meth c H locs cells slots Q (F0 m pc ls (.ref v :: .int i :: .ref a :: rest)) := by
  obtain ⟨w, h1, h2, h3⟩ := hP
  obtain ⟨q0, hq⟩ := (h3 a _).mp ha
  obtain ⟨qk, hqk⟩ := (h3 v _).mp hv
  exact va_astqO hexec hb hK h1 h2 hS q0 t0 qk ci hq ht hca hqk hc hin hdg (fun H1 locs1 g1 g2 g3 => kk H1 locs1 ⟨_, g1, g2, h3.set h2 hq⟩ g3)
theorem fh_astqN (hexec : p.tables.exec = Jvm.exec) (hb : c.code = cc) (hK : va_K D cl tys s) (hP : fh_P D cl A h H) (hS : va_S A H0 H locs) (t0 : Nat) {cA : ClassId} {C : String} {n : Nat} {f : Nat → Option Nat} (ha : h a = some (.inl (cA, n, .inr (.inr (.inr (.inr f)))))) (ht : tys[t0]? = some (cA, .object C)) {i : Int32} (hin : vp_in i n) (hdg : decode cc pc = .ok (.aastore, 1))
    (kk : ∀ (H1 : Heap) (locs1 : List Loc), fh_P D cl A (va_up h a (some (.inl (cA, n, .inr (.inr (.inr (.inr (va_up f i.toNatClampNeg none)))))))) H1 → va_S A H0 H1 locs1 → W p l e R s m args below meth c H1 locs1 cells slots Q (F0 m (pc + 1) ls rest)) : W p l e R s m args below meth c H locs cells slots Q (F0 m pc ls (.null :: .int i :: .ref a :: rest)) := by
  obtain ⟨w, h1, h2, h3⟩ := hP
  obtain ⟨q0, hq⟩ := (h3 a _).mp ha
  exact va_astqN hexec hb hK h1 h2 hS q0 t0 hq ht hin hdg (fun H1 locs1 g1 g2 g3 => kk H1 locs1 ⟨_, g1, g2, h3.set h2 hq⟩ g3)
end FHR
