/-! ===== constructors: worlds that grow ===== -/
theorem jw_oi : Cond.instanceMethod objectInit ∈ jw := jw_c1 (i := 20) (by decide +kernel) rfl
theorem jw_oc : Cond.code objectInit ⟨#[0xb1]⟩ 1 none ∈ jw := jw_c1 (i := 21) (by decide +kernel) rfl
theorem jw_ai : Cond.arrayClass .int ∈ jw := jw_c1 (i := 78) (by decide +kernel) rfl
/-- the words that don't keep by themselves, said of a state -/
def nW (U : State) : Prop := va_Nw (.methodLinkNest RX8 13 yX7_init RX8) U ∧ va_Nw (.methodLinkNest RX8 23 yX6_init RX8) U ∧ va_Nw (.methodLinkNest RX8 30 yX0_init RX8) U ∧ va_Nw (.methodLinkNest RX8 37 yX1_init RX8) U ∧ va_Nw (.methodLinkNest RX8 44 yX2_init RX8) U ∧ va_Nw (.methodLinkNest RX8 51 yX4_init RX8) U ∧ va_Nw (.methodLinkNest RX8 58 yX3_init RX8) U ∧ va_Nw (.methodLinkNest RX8 65 yX5_init RX8) U ∧ va_AO "LoafGates$Sheet" U
theorem nW.warm {s U : State} (hW : s.WarmedH U.vm) (h : nW s) : nW U := by
  obtain ⟨h1, h2, h3, h4, h5, h6, h7, h8, h9⟩ := h
  exact ⟨h1.warmM hW, h2.warmM hW, h3.warmM hW, h4.warmM hW, h5.warmM hW, h6.warmM hW, h7.warmM hW, h8.warmM hW, h9.moved hW.alike⟩
theorem nW.same {u U : State} (e : u.vm = U.vm) (h : nW u) : nW U := by
  obtain ⟨h1, h2, h3, h4, h5, h6, h7, h8, h9⟩ := h
  exact ⟨h1.same rfl e, h2.same rfl e, h3.same rfl e, h4.same rfl e, h5.same rfl e, h6.same rfl e, h7.same rfl e, h8.same rfl e, h9.moved (e ▸ Vm.Alike.refl u.vm)⟩
theorem nW.of {args : Array Value} {s : State} (h : ∀ w ∈ tables_1_1, w.before args s = true) : nW s := ⟨va_Nw.of rfl (h (.methodLinkNest RX8 13 yX7_init RX8) (List.mem_of_getElem? (i := 24) (by decide +kernel))), va_Nw.of rfl (h (.methodLinkNest RX8 23 yX6_init RX8) (List.mem_of_getElem? (i := 81) (by decide +kernel))), va_Nw.of rfl (h (.methodLinkNest RX8 30 yX0_init RX8) (List.mem_of_getElem? (i := 88) (by decide +kernel))), va_Nw.of rfl (h (.methodLinkNest RX8 37 yX1_init RX8) (List.mem_of_getElem? (i := 98) (by decide +kernel))), va_Nw.of rfl (h (.methodLinkNest RX8 44 yX2_init RX8) (List.mem_of_getElem? (i := 108) (by decide +kernel))), va_Nw.of rfl (h (.methodLinkNest RX8 51 yX4_init RX8) (List.mem_of_getElem? (i := 123) (by decide +kernel))), va_Nw.of rfl (h (.methodLinkNest RX8 58 yX3_init RX8) (List.mem_of_getElem? (i := 141) (by decide +kernel))), va_Nw.of rfl (h (.methodLinkNest RX8 65 yX5_init RX8) (List.mem_of_getElem? (i := 159) (by decide +kernel))), va_AO.of (h (.arrayOver (.object "LoafGates$Sheet")) (List.mem_of_getElem? (i := 157) (by decide +kernel)))⟩
abbrev nT (cI cS : ClassId) : List (ClassId × FieldType) := [(cI, .int), (cS, .object "LoafGates$Sheet")]
def nC (D : va_G) (cI cS : ClassId) (A : Nat → Prop) (M : jMt) (p : Program) (s : State) (m : MethodId) (args : Array Value) (meth : Method) (c : Code) : Prop :=
  p.tables.exec = Jvm.exec ∧ c.code = M.2.1 ∧ c.maxLocals = M.2.2.1 ∧ meth.sig.returnType = M.2.2.2 ∧ meth.locks = false ∧ s.vm.findClass M.1 = some m.cls ∧ (∀ w ∈ jw, w.before args s = true) ∧ va_K D vwCl (nT cI cS) s ∧ meth.name = "<init>" ∧ (∀ q, s.heap.size ≤ q → A q) ∧ nW s
abbrev nB (D : va_G) (A : Nat → Prop) (ws : va_W) (t : State) : Prop := va_P D vwCl ws t.heap ∧ va_D A ws
def JN (D : va_G) (cI cS : ClassId) (dp mc ms : Nat) (A : Nat → Prop) (M : jMt) (cells slots : Nat) (L : List (Nat × Value)) (pc : Nat) (st : List Value) (ws : va_W) (Q : va_W → Prop) : Prop :=
  ∀ (p : Program) (l : Launch) (e : Env) (R : Room) (s : State) (m : MethodId) (args : Array Value) (below : List Frame) (meth : Method) (c : Code), nC D cI cS A M p s m args meth c → mc ≤ R.cells → ms ≤ R.slots → dp ≤ R.frames → 40 * dp ≤ R.locals → ∀ (H : Heap) (locs : List Loc), va_P D vwCl ws H → va_D A ws → va_S A s.heap H locs → ∀ ls : Array Slot, lv_has ls M.2.2.1 L → W p l e R s m args below meth c H locs cells slots (MQ below (va_Qv Q (nB D A) A) args s mc ms A) (F0 m pc ls st)
abbrev nA (h0 ci : Nat) (fs : List Value) (sz : Nat) : Nat → Prop := va_A [(h0, .inr (ci, fs))] sz
abbrev nPc (D : va_G) (cI cS : ClassId) (h0 ci : Nat) (fs : List Value) (sz : Nat) : Array Value → State → Prop := va_Pc [.ref h0] (fun U => U.heap.size = sz ∧ va_P D vwCl [(h0, .inr (ci, fs))] U.heap ∧ va_K D vwCl (nT cI cS) U ∧ nW U)
abbrev nrm (d mc ms : Nat) : Room := { frames := d, cells := mc, slots := ms, locals := 40 * d }
/-- a constructor's contract -/
def nCt (D : va_G) (cI cS : ClassId) (d mc ms : Nat) (y : MethodName) (cc : ByteArray) (nL ci : Nat) (fs : List Value) (Q : Nat → va_W → Prop) : Prop :=
  ∀ (l : Launch) (h0 sz : Nat), Met l y (.code y cc nL none :: jw) (nrm d mc ms) (nPc D cI cS h0 ci fs sz) (va_Qv (Q h0) (nB D (nA h0 ci fs sz)) (nA h0 ci fs sz)) mc ms (nA h0 ci fs sz)
theorem nD1 {h0 ci sz : Nat} {fs : List Value} : va_D (nA h0 ci fs sz) [(h0, .inr (ci, fs))] := by
  refine ⟨fun i j p q hi hj _ => ?_, fun k q hk => va_A.in hk⟩
  have h1 := (List.getElem?_eq_some_iff.mp hi).1
  have h2 := (List.getElem?_eq_some_iff.mp hj).1
  simp at h1 h2
  omega
theorem nCt.of {D : va_G} {cI cS : ClassId} {d mc ms : Nat} {own : String} {y : MethodName} {cc : ByteArray} {nL ci : Nat} {fs : List Value} {Q : Nat → va_W → Prop} (hy : plainName y.cls = true) (ho : y.cls = own) (hy1 : y.name = "<init>") (hn : 1 ≤ nL) (h : ∀ (h0 : Nat) (A : Nat → Prop), JN D cI cS d mc ms A (own, cc, nL, none) 0 0 [(0, .ref h0)] 0 [] [(h0, .inr (ci, fs))] (Q h0)) : nCt D cI cS d mc ms y cc nL ci fs Q := by
  intro l h0 sz
  refine Met.ofW (cc := cc) (maxL := nL) (ret := none) hy rfl ?_
  intro p e s m args below meth c s₁ Bd hml hv
  obtain ⟨rfl, hsz, hP, hK, hN⟩ := hv
  subst hsz
  have hts := atoms_spec (ws := .code y cc nL none :: jw) Bd.pre
  have hown : s.vm.findClass y.cls = some m.cls := findClass_of_methodNamed Bd.named
  have hin : meth.name = y.name := (name_of_methodNamed Bd.named Bd.method).1
  have hl := lv_entry ([.ref h0]) (n := nL) hn
  rw [lg_entry_eq]
  exact h h0 _ p l e _ s m _ below meth c ⟨Bd.exec, Bd.bytes, hml, Bd.returns, Bd.notSynchronized, by rw [← ho]; exact hown, fun w hw => hts w (List.mem_cons_of_mem _ hw), hK, hin.trans hy1, fun q hq => Or.inr hq, hN⟩ (Nat.le_refl _) (Nat.le_refl _) (Nat.le_refl _) (Nat.le_refl _) s.heap [] hP nD1 va_S.rf _ hl
section NR
variable {D : va_G} {cI cS : ClassId} {dp mc ms : Nat} {A : Nat → Prop} {M : jMt} {cells slots : Nat} {L : List (Nat × Value)} {pc : Nat} {st : List Value} {ws : va_W} {Q : va_W → Prop}
theorem N_w (ws2 : va_W) (e : ws = ws2) (h : JN D cI cS dp mc ms A M cells slots L pc st ws2 Q) : JN D cI cS dp mc ms A M cells slots L pc st ws Q := e ▸ h
theorem N_aload {k : Fin 4} {i x : Nat} (n : Nat) (hd : decode M.2.1 pc = .ok (.aload_n k, 1)) (hp : pc + 1 = n) (hi : (k : Nat) = i) (hg : (i, Value.ref x) ∈ L) (h : JN D cI cS dp mc ms A M cells slots L n (.ref x :: st) ws Q) : JN D cI cS dp mc ms A M cells slots L pc st ws Q := by
  subst hp
  intro p l e R s m args below meth c C r1 r2 r3 r4 H locs hP hD hS ls hl
  refine lv_aload_n C.1 C.2.1 hd hi (hl.2.2 _ hg) ?_
  exact h p l e R s m args below meth c C r1 r2 r3 r4 H locs hP hD hS ls hl
theorem N_iload {k : Fin 4} {i : Nat} {x : Int} (n : Nat) (hd : decode M.2.1 pc = .ok (.iload_n k, 1)) (hp : pc + 1 = n) (hi : (k : Nat) = i) (hg : (i, vi x) ∈ L) (h : JN D cI cS dp mc ms A M cells slots L n (vi x :: st) ws Q) : JN D cI cS dp mc ms A M cells slots L pc st ws Q := by
  subst hp
  intro p l e R s m args below meth c C r1 r2 r3 r4 H locs hP hD hS ls hl
  refine lv_iload_n C.1 C.2.1 hd hi (hl.2.2 _ hg) ?_
  exact h p l e R s m args below meth c C r1 r2 r3 r4 H locs hP hD hS ls hl
theorem N_istore {k : Fin 4} {i : Nat} {x : Int} (n : Nat) (L2 : List (Nat × Value)) (hd : decode M.2.1 pc = .ok (.istore_n k, 1)) (hp : pc + 1 = n) (hi : (k : Nat) = i) (hn : i < M.2.2.1) (hL : (i, vi x) :: L.filter (fun q => !(q.1 == i) && !(q.1 + 1 == i && q.2.category == 2)) = L2) (h : JN D cI cS dp mc ms A M cells slots L2 n st ws Q) : JN D cI cS dp mc ms A M cells slots L pc (vi x :: st) ws Q := by
  subst hp
  intro p l e R s m args below meth c C r1 r2 r3 r4 H locs hP hD hS ls hl
  refine lv_istore_n C.1 C.2.1 hd hi hl hn hL (fun ls2 hl2 => ?_)
  exact h p l e R s m args below meth c C r1 r2 r3 r4 H locs hP hD hS ls2 hl2
theorem N_iinc {i k : Nat} {v x : Int} (n : Nat) (L2 : List (Nat × Value)) (hd : decode M.2.1 pc = .ok (.iinc i v, 3)) (hp : pc + 3 = n) (hk : L[k]? = some (i, vi x)) (hn : i < M.2.2.1) (hL : (i, vi (x + v)) :: L.filter (fun q => !(q.1 == i) && !(q.1 + 1 == i && q.2.category == 2)) = L2) (h : JN D cI cS dp mc ms A M cells slots L2 n st ws Q) : JN D cI cS dp mc ms A M cells slots L pc st ws Q := by
  subst hp
  intro p l e R s m args below meth c C r1 r2 r3 r4 H locs hP hD hS ls hl
  refine lv_iinc (v := iI (x + v)) C.1 C.2.1 hd hl hk (iI_add x v) hn hL (fun ls2 hl2 => ?_)
  exact h p l e R s m args below meth c C r1 r2 r3 r4 H locs hP hD hS ls2 hl2
theorem N_iconst {v : Int} (n : Nat) (hd : decode M.2.1 pc = .ok (.iconst v, 1)) (hp : pc + 1 = n) (h : JN D cI cS dp mc ms A M cells slots L n (vi v :: st) ws Q) : JN D cI cS dp mc ms A M cells slots L pc st ws Q := by
  subst hp
  intro p l e R s m args below meth c C r1 r2 r3 r4 H locs hP hD hS ls hl
  refine lv_iconst (v := iI v) C.1 C.2.1 hd rfl ?_
  exact h p l e R s m args below meth c C r1 r2 r3 r4 H locs hP hD hS ls hl
theorem N_bipush {v : Int} (n : Nat) (hd : decode M.2.1 pc = .ok (.bipush v, 2)) (hp : pc + 2 = n) (hv : -128 ≤ v ∧ v ≤ 127) (h : JN D cI cS dp mc ms A M cells slots L n (vi v :: st) ws Q) : JN D cI cS dp mc ms A M cells slots L pc st ws Q := by
  subst hp
  intro p l e R s m args below meth c C r1 r2 r3 r4 H locs hP hD hS ls hl
  refine lv_bipush (v := iI v) C.1 C.2.1 hd (iI_b8 hv) ?_
  exact h p l e R s m args below meth c C r1 r2 r3 r4 H locs hP hD hS ls hl
theorem N_sipush {v : Int} (n : Nat) (hd : decode M.2.1 pc = .ok (.sipush v, 3)) (hp : pc + 3 = n) (hv : -32768 ≤ v ∧ v ≤ 32767) (h : JN D cI cS dp mc ms A M cells slots L n (vi v :: st) ws Q) : JN D cI cS dp mc ms A M cells slots L pc st ws Q := by
  subst hp
  intro p l e R s m args below meth c C r1 r2 r3 r4 H locs hP hD hS ls hl
  refine lv_sipush (v := iI v) C.1 C.2.1 hd (iI_s16 hv) ?_
  exact h p l e R s m args below meth c C r1 r2 r3 r4 H locs hP hD hS ls hl
theorem N_dup {v : Value} (n : Nat) (hd : decode M.2.1 pc = .ok (.dup, 1)) (hp : pc + 1 = n) (hv : v.category = 1) (h : JN D cI cS dp mc ms A M cells slots L n (v :: v :: st) ws Q) : JN D cI cS dp mc ms A M cells slots L pc (v :: st) ws Q := by
  subst hp
  intro p l e R s m args below meth c C r1 r2 r3 r4 H locs hP hD hS ls hl
  refine lv_dup C.1 C.2.1 hd hv ?_
  exact h p l e R s m args below meth c C r1 r2 r3 r4 H locs hP hD hS ls hl
theorem N_oi {idx x : Nat} (n : Nat) (hd : decode M.2.1 pc = .ok (.invokespecial idx, 3)) (hp : pc + 3 = n) (hw : Cond.methodLink M.1 idx objectInit ∈ jw) (h1 : 1 ≤ dp) (h : JN D cI cS dp mc ms A M cells slots L n [] ws Q) : JN D cI cS dp mc ms A M cells slots L pc [.ref x] ws Q := by
  subst hp
  intro p l e R s m args below meth c C r1 r2 r3 r4 H locs hP hD hS ls hl
  have ht := C.2.2.2.2.2.2.1
  have hr := lv_room (m := m) (pc := pc) (ls := ls) (rest := [.ref x]) (st := []) (by decide)
  refine W.objInit C.1 C.2.1 C.2.2.2.2.2.1 (ht _ hw) (ht _ jw_oi) (ht _ jw_oc) rfl (by rw [C.2.2.1]; exact hl.1) rfl hd (by omega) (by omega) ?_
  exact h p l e R s m args below meth c C r1 r2 r3 r4 H locs hP hD hS ls hl
theorem N_newarr {N : Nat} {z : Int} (n : Nat) (hd : decode M.2.1 pc = .ok (.newarray .int, 2)) (hp : pc + 2 = n) (hz : ((N : Nat) : Int) = z) (hN : N ≤ 1000) (hc : cells + 1 ≤ mc) (hs : slots + N ≤ ms) (h : ∀ q : Nat, JN D cI cS dp mc ms A M (cells + 1) (slots + N) L n (.ref q :: st) (ws ++ [(q, .inl (cI, N, .inl (fun _ => iI 0)))]) Q) : JN D cI cS dp mc ms A M cells slots L pc (vi z :: st) ws Q := by
  subst hp
  intro p l e R s m args below meth c C r1 r2 r3 r4 H locs hP hD hS ls hl
  subst hz
  have ht := C.2.2.2.2.2.2.1
  have hK := C.2.2.2.2.2.2.2.1
  refine va_newa (atype := .int) (ty := .int) (N' := N) (a0 := (N, .inl (fun _ => iI 0))) C.1 C.2.1 (ht _ jw_ai) rfl hK hP hD hS C.2.2.2.2.2.2.2.2.2.1 (fun cA => rfl) (fun q => ?_) (by rw [iI_cl (by omega)]; omega) (by show N * 4 ≤ 536870912; omega) (by omega) (by omega) hd (fun q cA H1 hK1 hP1 hD1 hS1 => ?_)
  · have := (iI_lt (a := (N : Int)) (b := 0) (by omega) (by omega)).mp q
    omega
  · have e1 : va_RA s cA .int := (hK1.2 2 (cA, .int) rfl).2
    have e2 : va_RA s cI .int := (hK.2 0 (cI, .int) rfl).2
    have e3 : cA = cI := Option.some.inj (Eq.trans (Eq.symm e1) e2)
    subst e3
    exact h q p l e R s m args below meth c C r1 r2 r3 r4 H1 locs hP1 hD1 hS1 ls hl
/-- a final field of a reference, put by its own class's constructor -/
def jH9 (own : String) (idx ci j : Nat) : Prop := ∃ (C : String) (T : u_T) (N : Nat) (ty : Nat → FieldType) (tj : FieldType), vwCl[ci]? = some (C, T, N) ∧ j < N ∧ Cond.fieldLink own idx (T j).1 (T j).2.1 (T j).2.2.1 ∈ jw ∧ (∀ w ∈ u_ws C T N, w ∈ jw) ∧ (∀ k, k < N → parseFieldDescriptor (T k).2.2.1 = some (ty k)) ∧ (∀ a, a < N → ∀ b, b < N → a ≠ b → (T a).2.1 ≠ (T b).2.1) ∧ (T j).2.2.2 = true ∧ (T j).1 = own ∧ parseFieldDescriptor (T j).2.2.1 = some tj ∧ ∀ q : Nat, narrow tj (.ref q) = .ref q ∧ fits tj (.ref q) = true
theorem N_putF {idx ci j h0 q : Nat} {fs : List Value} {rest : va_W} (n : Nat) (hd : decode M.2.1 pc = .ok (.putfield idx, 3)) (hp : pc + 3 = n) (hf : jH9 M.1 idx ci j) (hw : ws = (h0, .inr (ci, fs)) :: rest) (hj : j < fs.length) (h : JN D cI cS dp mc ms A M cells slots L n st ((h0, .inr (ci, fs.set j (.ref q))) :: rest) Q) : JN D cI cS dp mc ms A M cells slots L pc (.ref q :: .ref h0 :: st) ws Q := by
  subst hp
  intro p l e R s m args below meth c C r1 r2 r3 r4 H locs hP hD hS ls hl
  subst hw
  obtain ⟨Cn, T, N, ty, tj, f1, f2, f3, f4, f5, f6, f7, f8, f9, fa⟩ := hf
  have ht := C.2.2.2.2.2.2.1
  refine va_putF (own := M.1) (tys := nT cI cS) (v := .ref q) C.1 C.2.1 ht f4 ty f5 f6 C.2.2.2.2.2.1 C.2.2.2.2.2.2.2.1 hP hD hS 0 rfl f1 j f2 (ht _ f3) (fun _ z => z) f7 C.2.2.2.2.2.2.2.2.1 f8 f9 (fa q).1 (fa q).2 hj hd (fun H1 locs1 hP1 hD1 hS1 => ?_)
  exact h p l e R s m args below meth c C r1 r2 r3 r4 H1 locs1 hP1 hD1 hS1 ls hl
theorem N_putI {idx ci j h0 : Nat} {z : Int} {fs : List Value} {rest : va_W} (n : Nat) (hd : decode M.2.1 pc = .ok (.putfield idx, 3)) (hp : pc + 3 = n) (hf : jG M.1 idx ci j) (hw : ws = (h0, .inr (ci, fs)) :: rest) (hj : j < fs.length) (h : JN D cI cS dp mc ms A M cells slots L n st ((h0, .inr (ci, fs.set j (vi z))) :: rest) Q) : JN D cI cS dp mc ms A M cells slots L pc (vi z :: .ref h0 :: st) ws Q := by
  subst hp
  intro p l e R s m args below meth c C r1 r2 r3 r4 H locs hP hD hS ls hl
  subst hw
  obtain ⟨Cn, T, N, ty, f1, f2, f3, f4, f5, f6, f7, f8⟩ := hf
  have ht := C.2.2.2.2.2.2.1
  refine va_put (own := M.1) (tys := nT cI cS) (v := vi z) C.1 C.2.1 ht f4 ty f5 f6 C.2.2.2.2.2.1 C.2.2.2.2.2.2.2.1 hP hD hS 0 rfl f1 j f2 (ht _ f3) (fun _ z => z) f7 f8 (vp_nar_int _) rfl hj hd (fun H1 locs1 hP1 hD1 hS1 => ?_)
  exact h p l e R s m args below meth c C r1 r2 r3 r4 H1 locs1 hP1 hD1 hS1 ls hl
theorem N_getA {idx ci j h0 q : Nat} {fs : List Value} {rest : va_W} (n : Nat) (hd : decode M.2.1 pc = .ok (.getfield idx, 3)) (hp : pc + 3 = n) (hf : jF M.1 idx ci j) (hw : ws = (h0, .inr (ci, fs)) :: rest) (hj : fs[j]? = some (.ref q)) (h : JN D cI cS dp mc ms A M cells slots L n (.ref q :: st) ws Q) : JN D cI cS dp mc ms A M cells slots L pc (.ref h0 :: st) ws Q := by
  subst hp
  intro p l e R s m args below meth c C r1 r2 r3 r4 H locs hP hD hS ls hl
  obtain ⟨Cn, T, N, ty, f1, f2, f3, f4, f5, f6⟩ := hf
  have ht := C.2.2.2.2.2.2.1
  refine va_get (own := M.1) (tys := nT cI cS) (v := .ref q) C.1 C.2.1 ht f4 C.2.2.2.2.2.1 C.2.2.2.2.2.2.2.1 hP 0 (fs := fs) (by rw [hw]; rfl) f1 j f2 (ht _ f3) (fun _ z => z) hj hd ?_
  exact h p l e R s m args below meth c C r1 r2 r3 r4 H locs hP hD hS ls hl
theorem N_iast {a k N : Nat} {i z : Int} {f : Nat → Int32} (n : Nat) (ws2 : va_W) (hd : decode M.2.1 pc = .ok (.iastore, 1)) (hp : pc + 1 = n) (ha : ws[k]? = some (a, .inl (cI, N, .inl f))) (hi : 0 ≤ i ∧ i < N) (hN : N ≤ 1000) (hw : ws.set k (a, .inl (cI, N, .inl (upd f i.toNat (iI z)))) = ws2) (h : JN D cI cS dp mc ms A M cells slots L n st ws2 Q) : JN D cI cS dp mc ms A M cells slots L pc (vi z :: vi i :: .ref a :: st) ws Q := by
  subst hp
  intro p l e R s m args below meth c C r1 r2 r3 r4 H locs hP hD hS ls hl
  subst hw
  refine va_iast (tys := nT cI cS) C.1 C.2.1 C.2.2.2.2.2.2.2.1 hP hD hS k 0 ha rfl (iI_in hi.1 hi.2 hN) hd (fun H1 locs1 hP1 hD1 hS1 => ?_)
  rw [iI_cl (by omega)] at hP1 hD1
  exact h p l e R s m args below meth c C r1 r2 r3 r4 H1 locs1 hP1 hD1 hS1 ls hl
theorem N_goto {off : Int} (tgt : Nat) (hd : decode M.2.1 pc = .ok (.goto off, 3)) (ht : (pc : Int) + off = (tgt : Int)) (h : JN D cI cS dp mc ms A M cells slots L tgt st ws Q) : JN D cI cS dp mc ms A M cells slots L pc st ws Q := by
  intro p l e R s m args below meth c C r1 r2 r3 r4 H locs hP hD hS ls hl
  refine lv_goto C.1 C.2.1 hd ht ?_
  exact h p l e R s m args below meth c C r1 r2 r3 r4 H locs hP hD hS ls hl
theorem N_ge {x y off : Int} (tgt n : Nat) (hd : decode M.2.1 pc = .ok (.if_icmp .ge off, 3)) (ht : (pc : Int) + off = (tgt : Int)) (hp : pc + 3 = n) (hx : inR x) (hy : inR y) (h1 : y ≤ x → JN D cI cS dp mc ms A M cells slots L tgt st ws Q) (h2 : ¬ y ≤ x → JN D cI cS dp mc ms A M cells slots L n st ws Q) : JN D cI cS dp mc ms A M cells slots L pc (vi y :: vi x :: st) ws Q := by
  subst hp
  intro p l e R s m args below meth c C r1 r2 r3 r4 H locs hP hD hS ls hl
  refine lv_icmp_ge C.1 C.2.1 hd ht (fun q => ?_) (fun q => ?_)
  · exact h1 ((iI_le hy hx).mp q) p l e R s m args below meth c C r1 r2 r3 r4 H locs hP hD hS ls hl
  · exact h2 (fun z => q ((iI_le hy hx).mpr z)) p l e R s m args below meth c C r1 r2 r3 r4 H locs hP hD hS ls hl
theorem N_ret (hd : decode M.2.1 pc = .ok (.return_, 1)) (hr : M.2.2.2 = none) (hc : cells ≤ mc) (hs : slots ≤ ms) (h : Q ws) : JN D cI cS dp mc ms A M cells slots L pc [] ws Q := by
  intro p l e R s m args below meth c C r1 r2 r3 r4 H locs hP hD hS ls hl
  refine W.widen (k := mc) (n := ms) hc hs ?_
  exact W.vret C.1 C.2.1 (C.2.2.2.1.trans hr) (fun t ht hW => ⟨⟨ws, rfl, h, by rw [ht]; exact hP, hD⟩, hS.F ht⟩) hS.2.2 hd C.2.2.2.2.1
theorem n_blind {h0 ci sz : Nat} {fs : List Value} : FrameBlind (nPc D cI cS h0 ci fs sz) := fun a U g mk q => by
  obtain ⟨q0, q1, qP, qK, qN⟩ := q
  exact ⟨q0, q1, qP, va_K.moved (u := U) (U := U.calling g mk a) (Vm.Alike.refl U.vm) qK, qN.same rfl⟩
end NR
section NW
variable {p : Program} {l : Launch} {e : Env} {R : Room} {s : State} {m : MethodId} {args : Array Value} {below : List Frame} {meth : Method} {c : Code} {H H0 : Heap} {locs : List Loc} {cells slots : Nat} {Z : State → Prop}
variable {D : va_G} {pc : Nat} {ls : Array Slot} {rest st0 : List Value} {a : Array Value} {A0 : Nat → Prop} {ws : va_W} {mc ms q ci : Nat} {fs : List Value} {Qs : va_W → Prop}
/-- behind a constructor: the caller's cells and the new ones -/
theorem w_init (hr : va_Run p l e R s m args below meth c H locs cells slots mc ms (F0 m pc ls st0) rest (va_Qv Qs (nB D (nA q ci fs H.size)) (nA q ci fs H.size) a) (nA q ci fs H.size)) (hP : va_P D vwCl (ws ++ [(q, .inr (ci, fs))]) H) (hD : va_D A0 (ws ++ [(q, .inr (ci, fs))])) (hS : va_S A0 H0 H locs) (hA : ∀ x, H0.size ≤ x → A0 x)
    (kk : ∀ (w1 : va_W) (H1 : Heap) (locs1 : List Loc), Qs w1 → va_P D vwCl (ws ++ w1) H1 → va_D A0 (ws ++ w1) → va_S A0 H0 H1 locs1 → W p l e R s m args below meth c H1 locs1 (cells + mc) (slots + ms) Z (F0 m (pc + 3) ls rest)) : W p l e R s m args below meth c H locs cells slots Z (F0 m pc ls st0) := by
  have hlast : (ws ++ [(q, (.inr (ci, fs) : va_E))])[ws.length]? = some (q, .inr (ci, fs)) := by simp
  have hleft : ∀ (k : Nat) (x : Nat × va_E), ws[k]? = some x → k < ws.length ∧ (ws ++ [(q, (.inr (ci, fs) : va_E))])[k]? = some x := fun k x hx => by
    have hk := (List.getElem?_eq_some_iff.mp hx).1
    exact ⟨hk, by rw [List.getElem?_append_left hk]; exact hx⟩
  have hF : ∀ x, nA q ci fs H.size x → A0 x := by
    intro x hx
    rcases hx with ⟨k, ee, hk⟩ | hx
    · have hz : k < 1 := (List.getElem?_eq_some_iff.mp hk).1
      rw [show k = 0 by omega] at hk
      cases hk
      exact hD.2 _ _ hlast
    · exact hA x (Nat.le_trans hS.1 hx)
  have apart : ∀ (k : Nat) (x : Nat × va_E), ws[k]? = some x → x.1 < H.size ∧ ¬ nA q ci fs H.size x.1 := by
    intro k x hx
    obtain ⟨h1, h2⟩ := hleft k x hx
    have hl := (hP k x h2).lt
    refine ⟨hl, fun h => ?_⟩
    rcases h with ⟨k2, ee, h⟩ | h
    · have hz : k2 < 1 := (List.getElem?_eq_some_iff.mp h).1
      rw [show k2 = 0 by omega] at h
      have hq : x.1 = q := by
        have := Option.some.inj h
        exact (congrArg Prod.fst this).symm
      have := hD.1 k ws.length x _ h2 hlast hq
      omega
    · omega
  have hDl : va_D A0 ws := ⟨fun i j x y hi hj hxy => hD.1 i j x y (hleft i x hi).2 (hleft j y hj).2 hxy, fun k x hx => hD.2 k x (hleft k x hx).2⟩
  refine va_callv hr hS (fun x _ h => hF x h) hF (fun w1 t H1 locs1 ht hvm hq hB hz hk hS1 => ?_)
  obtain ⟨hP1, hD1⟩ := hB
  rw [ht] at hP1
  refine kk w1 H1 locs1 hq (va_P.app (fun k x hx => ?_) hP1) (va_D.app hDl (hD1.weaken (fun k x _ h => hF x.1 h)) (fun i j x y hx hy hxy => ?_)) hS1
  · obtain ⟨g1, g2⟩ := apart k x hx
    exact (hP k x (hleft k x hx).2).kept (hk x.1 g1 g2)
  · exact (apart i x hx).2 (by rw [hxy]; exact hD1.2 j y hy)
end NW
section NR2
variable {D : va_G} {cI cS : ClassId} {dp mc ms : Nat} {A : Nat → Prop} {M : jMt} {cells slots : Nat} {L : List (Nat × Value)} {pc : Nat} {st : List Value} {ws : va_W} {Q : va_W → Prop}
/-- what new of a class needs -/
def jNw (own : String) (i1 ci : Nat) (fs : List Value) (N : Nat) : Prop := ∃ (C : String) (T : u_T) (ty : Nat → FieldType), vwCl[ci]? = some (C, T, N) ∧ (∀ w ∈ u_ws C T N, w ∈ jw) ∧ (∀ k, k < N → parseFieldDescriptor (T k).2.2.1 = some (ty k)) ∧ Cond.classLink own i1 C ∈ jw ∧ Cond.instantiable C N ∈ jw ∧ Cond.initialized C ∈ jw ∧ ∀ j, j < N → defaultValue (ty j) = vp_V fs j
def jIn (y : MethodName) (cc : ByteArray) (nL : Nat) : Prop := Cond.instanceMethod y ∈ jw ∧ Cond.initialized y.cls ∈ jw ∧ Cond.code y cc nL none ∈ jw ∧ y.name = "<init>" ∧ (y.cls ≠ "java/lang/invoke/MethodHandle" ∧ y.cls ≠ "java/lang/invoke/VarHandle" ∧ (parseMethodDescriptor y.desc).map (fun d => d.parameters.length) = some 0) ∧ nL ≤ 20
theorem N_new {i1 i2 ci N nL d mc2 ms2 : Nat} {fs : List Value} {y : MethodName} {cc : ByteArray} {Qs : Nat → va_W → Prop} (n : Nat) (hd1 : decode M.2.1 pc = .ok (.new i1, 3)) (hd2 : decode M.2.1 (pc + 3) = .ok (.dup, 1)) (hd3 : decode M.2.1 (pc + 4) = .ok (.invokespecial i2, 3)) (hp : pc + 7 = n) (hn : jNw M.1 i1 ci fs N) (hi : jIn y cc nL) (hw : ∀ U, nW U → va_Nw (.methodLinkNest M.1 i2 y RX8) U) (hc : nCt D cI cS d mc2 ms2 y cc nL ci fs Qs) (hd : d + 1 ≤ dp) (hcl : cells + 1 + mc2 ≤ mc) (hsl : slots + N + ms2 ≤ ms) (hst : (st.map fun v => v.category).sum ≤ 7) (h : ∀ (q : Nat) (w1 : va_W), Qs q w1 → JN D cI cS dp mc ms A M (cells + 1 + mc2) (slots + N + ms2) L n (.ref q :: st) (ws ++ w1) Q) : JN D cI cS dp mc ms A M cells slots L pc st ws Q := by
  subst hp
  intro p l e R s m args below meth c C r1 r2 r3 r4 H locs hP hD hS ls hl
  obtain ⟨Cn, T, ty, f1, f2, f3, f4, f5, f6, f7⟩ := hn
  obtain ⟨g1, g2, g3, g4, g5, g6⟩ := hi
  have ht := C.2.2.2.2.2.2.1
  have hK := C.2.2.2.2.2.2.2.1
  have hA := C.2.2.2.2.2.2.2.2.2.1
  have hN := C.2.2.2.2.2.2.2.2.2.2
  refine va_new (fs := fs) C.1 C.2.1 ht f2 ty f3 C.2.2.2.2.2.1 (ht _ f4) (ht _ f5) (ht _ f6) hK hP hD hS hA f1 f7 (by omega) (by omega) hd1 (fun q H1 hP1 hD1 hS1 => ?_)
  refine lv_dup C.1 C.2.1 hd2 rfl ?_
  have hG : GoodIn jw (.code y cc nL none :: jw) := by
    intro w hww
    rcases List.mem_cons.mp hww with rfl | h
    · exact j_good g3
    · exact j_good h
  refine w_init (D := D) (ws := ws) (q := q) (ci := ci) (fs := fs) (Qs := Qs q) (rest := .ref q :: st) (va_runIN (As := []) (rest := .ref q :: st) (n := 0) (nL := M.2.2.1) ⟨C.1, C.2.1, C.2.2.1, C.2.2.2.2.2.1, ht⟩ (hc l q H1.size) ⟨va_cnB (host := RX8) 0 ht hG rfl rfl rfl (hw s hN) (ht _ g2) g5 ⟨by show d + 1 ≤ R.frames; omega, by show 8 + (nL + 11) + 40 * d ≤ R.locals; omega⟩, g4, ht _ g1⟩ ⟨n_blind, fun U hU hW => ⟨rfl, by rw [hU], by rw [hU]; exact va_P.sub hP1 [ws.length] (by simp), va_K.moved hW.alike hK, hN.warm hW⟩⟩ rfl rfl hl.1 rfl (lv_room (by simp only [List.map_cons, List.sum_cons]; show 1 + _ ≤ 8; omega)) hd3 ⟨by omega, by omega⟩) hP1 hD1 hS1 hA (fun w1 H2 locs2 hq hP2 hD2 hS2 => ?_)
  exact h q w1 hq p l e R s m args below meth c C r1 r2 r3 r4 H2 locs2 hP2 hD2 hS2 ls hl
theorem N_newq {idx N : Nat} {z : Int} (n : Nat) (hd : decode M.2.1 pc = .ok (.anewarray idx, 3)) (hp : pc + 3 = n) (hw : Cond.classLink M.1 idx "LoafGates$Sheet" ∈ jw) (hz : ((N : Nat) : Int) = z) (hN : N ≤ 1000) (hc : cells + 1 ≤ mc) (hs : slots + N ≤ ms) (h : ∀ q : Nat, JN D cI cS dp mc ms A M (cells + 1) (slots + N) L n (.ref q :: st) (ws ++ [(q, .inl (cS, N, .inr (.inr (.inr (.inr (fun _ => none))))))]) Q) : JN D cI cS dp mc ms A M cells slots L pc (vi z :: st) ws Q := by
  subst hp
  intro p l e R s m args below meth c C r1 r2 r3 r4 H locs hP hD hS ls hl
  subst hz
  have ht := C.2.2.2.2.2.2.1
  have hK := C.2.2.2.2.2.2.2.1
  have hA := C.2.2.2.2.2.2.2.2.2.1
  have hW := C.2.2.2.2.2.2.2.2.2.2
  refine va_newq (N' := N) C.1 C.2.1 C.2.2.2.2.2.1 (ht _ hw) hW.2.2.2.2.2.2.2.2 hK hP hD hS hA (fun q => ?_) (by rw [iI_cl (by omega)]; omega) (by omega) (by omega) (by omega) hd (fun q cA H1 hK1 hP1 hD1 hS1 => ?_)
  · have := (iI_lt (a := (N : Int)) (b := 0) (by omega) (by omega)).mp q
    omega
  · obtain ⟨-, -, -, -, -, e1⟩ := (hK1.2 2 (cA, .object "LoafGates$Sheet") rfl).2
    obtain ⟨-, -, -, -, -, e2⟩ := (hK.2 1 (cS, .object "LoafGates$Sheet") rfl).2
    have e3 : cA = cS := Option.some.inj (Eq.trans (Eq.symm e1) e2)
    subst e3
    exact h q p l e R s m args below meth c C r1 r2 r3 r4 H1 locs hP1 hD1 hS1 ls hl
theorem N_astq {a k k2 N v : Nat} {i : Int} {f : Nat → Option Nat} {vs : List Value} (n : Nat) (ws2 : va_W) (hd : decode M.2.1 pc = .ok (.aastore, 1)) (hp : pc + 1 = n) (ha : ws[k]? = some (a, .inl (cS, N, .inr (.inr (.inr (.inr f)))))) (hv : ws[k2]? = some (v, .inr (5, vs))) (hi : 0 ≤ i ∧ i < N) (hN : N ≤ 1000) (hw : ws.set k (a, .inl (cS, N, .inr (.inr (.inr (.inr (va_up f i.toNat (some v))))))) = ws2) (h : JN D cI cS dp mc ms A M cells slots L n st ws2 Q) : JN D cI cS dp mc ms A M cells slots L pc (.ref v :: vi i :: .ref a :: st) ws Q := by
  subst hp
  intro p l e R s m args below meth c C r1 r2 r3 r4 H locs hP hD hS ls hl
  subst hw
  refine va_astq (tys := nT cI cS) (r := (RX5, TX5, 3)) C.1 C.2.1 C.2.2.2.2.2.2.2.1 hP hD hS k 1 k2 5 ha rfl hv rfl (iI_in hi.1 hi.2 hN) hd (fun H1 locs1 hP1 hD1 hS1 => ?_)
  rw [iI_cl (by omega)] at hP1 hD1
  exact h p l e R s m args below meth c C r1 r2 r3 r4 H1 locs1 hP1 hD1 hS1 ls hl
end NR2
