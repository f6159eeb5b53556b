theorem jw_native : Cond.native arraycopyName ∈ jw := jw_c2 (i := 32) (by decide +kernel) rfl
theorem jw_static : Cond.static arraycopyName ∈ jw := jw_c2 (i := 31) (by decide +kernel) rfl
theorem jw_sysinit : Cond.initialized "java/lang/System" ∈ jw := jw_c1 (i := 11) (by decide +kernel) rfl
theorem jw_mathinit : Cond.initialized "java/lang/Math" ∈ jw := jw_c1 (i := 12) (by decide +kernel) rfl
theorem jw_mincode : Cond.code Lib.Math.min.name Lib.Math.min.code 2 (some .int) ∈ jw := jw_c2 (i := 60) (by decide +kernel) rfl
theorem jw_minst : Cond.static Lib.Math.min.name ∈ jw := jw_c2 (i := 59) (by decide +kernel) rfl
theorem jw_maxcode : Cond.code Lib.Math.max.name Lib.Math.max.code 2 (some .int) ∈ jw := jw_c2 (i := 63) (by decide +kernel) rfl
theorem jw_maxst : Cond.static Lib.Math.max.name ∈ jw := jw_c2 (i := 62) (by decide +kernel) rfl
theorem cstJ6_265 : Cond.constant RJ6 265 (iI 1431655765) ∈ jw := jw_c2 (i := 231) (by decide +kernel) rfl
theorem cstJ6_266 : Cond.constant RJ6 266 (iI 858993459) ∈ jw := jw_c2 (i := 232) (by decide +kernel) rfl
theorem cstJ6_267 : Cond.constant RJ6 267 (iI 252645135) ∈ jw := jw_c2 (i := 233) (by decide +kernel) rfl
theorem cstX8_248 : Cond.constantLong RX8 248 (lI (-9223372036854775808)) ∈ jw := jw_c3 (i := 103) (by decide +kernel) rfl
theorem cstX9_303 : Cond.constantLong RX9 303 (lI 3) ∈ jw := jw_c4 (i := 92) (by decide +kernel) rfl
theorem cstX9_153 : Cond.constantLong RX9 153 (lI 2) ∈ jw := jw_c4 (i := 100) (by decide +kernel) rfl
theorem cstX9_196 : Cond.constantLong RX9 196 (lI 9) ∈ jw := jw_c4 (i := 179) (by decide +kernel) rfl
theorem cstX9_229 : Cond.constantLong RX9 229 (lI 20) ∈ jw := jw_c4 (i := 200) (by decide +kernel) rfl
theorem cstX9_231 : Cond.constantLong RX9 231 (lI 4) ∈ jw := jw_c4 (i := 201) (by decide +kernel) rfl
theorem cstX9_233 : Cond.constantLong RX9 233 (lI 10) ∈ jw := jw_c4 (i := 202) (by decide +kernel) rfl
theorem cstX9_235 : Cond.constantLong RX9 235 (lI 15) ∈ jw := jw_c4 (i := 203) (by decide +kernel) rfl
theorem cstX9_201 : Cond.constantLong RX9 201 (lI 11) ∈ jw := jw_c4 (i := 207) (by decide +kernel) rfl
theorem cstX9_203 : Cond.constantLong RX9 203 (lI 16) ∈ jw := jw_c4 (i := 208) (by decide +kernel) rfl
theorem cstX9_252 : Cond.constantLong RX9 252 (lI 30) ∈ jw := jw_c5 (i := 6) (by decide +kernel) rfl
theorem cstX9_276 : Cond.constantLong RX9 276 (lI (-1)) ∈ jw := jw_c5 (i := 46) (by decide +kernel) rfl
theorem cstX9_293 : Cond.constantLong RX9 293 (lI 99) ∈ jw := jw_c5 (i := 83) (by decide +kernel) rfl
theorem cstX9_94 : Cond.constantLong RX9 94 (lI (-9223372036854775808)) ∈ jw := jw_c5 (i := 115) (by decide +kernel) rfl
section JR
variable {P : jP} {dp : Nat} {M : jMt} {pc : Nat} {L : List (Option Value)} {rest : List Value} {σ : jS} {Q : Option Value → jS → Prop}
theorem iI_b8 {v : Int} (h : -128 ≤ v ∧ v ≤ 127) : (Int8.ofInt v).toInt32 = iI v := by
  apply Int32.toInt_inj.mp
  rw [Int8.toInt_toInt32, iI_toInt (by omega), Int8.toInt_ofInt_of_le (by omega) (by omega)]
theorem iI_s16 {v : Int} (h : -32768 ≤ v ∧ v ≤ 32767) : (Int16.ofInt v).toInt32 = iI v := by
  apply Int32.toInt_inj.mp
  rw [Int16.toInt_toInt32, iI_toInt (by omega), Int16.toInt_ofInt_of_le (by omega) (by omega)]
theorem J.bd (h : jBd σ → J P dp M pc L rest σ Q) : J P dp M pc L rest σ Q := fun B => h B B
theorem Ct.bd {y : MethodName} {cc : ByteArray} {nL : Nat} {ret : Option FieldType} {av : List Value} (h : jBd σ → Ct P dp y cc nL ret av σ Q) : Ct P dp y cc nL ret av σ Q := fun B => h B B
theorem J_iconst {v : Int} (n : Nat) (hd : decode M.2.1 pc = .ok (.iconst v, 1)) (hp : pc + 1 = n) (h : J P dp M n L (vi v :: rest) σ Q) : J P dp M pc L rest σ Q := by
  subst hp
  intro B p l e R s m args below meth c C H locs hP hS ls hl
  refine lv_iconst (v := iI v) C.1 C.2.1 hd rfl ?_
  exact h B p l e R s m args below meth c C H locs hP hS ls hl
theorem J_bipush {v : Int} (n : Nat) (hd : decode M.2.1 pc = .ok (.bipush v, 2)) (hp : pc + 2 = n) (hv : -128 ≤ v ∧ v ≤ 127) (h : J P dp M n L (vi v :: rest) σ Q) : J P dp M pc L rest σ Q := by
  subst hp
  intro B p l e R s m args below meth c C H locs hP hS ls hl
  refine lv_bipush (v := iI v) C.1 C.2.1 hd (iI_b8 hv) ?_
  exact h B p l e R s m args below meth c C H locs hP hS ls hl
theorem J_sipush {v : Int} (n : Nat) (hd : decode M.2.1 pc = .ok (.sipush v, 3)) (hp : pc + 3 = n) (hv : -32768 ≤ v ∧ v ≤ 32767) (h : J P dp M n L (vi v :: rest) σ Q) : J P dp M pc L rest σ Q := by
  subst hp
  intro B p l e R s m args below meth c C H locs hP hS ls hl
  refine lv_sipush (v := iI v) C.1 C.2.1 hd (iI_s16 hv) ?_
  exact h B p l e R s m args below meth c C H locs hP hS ls hl
theorem J_lconst {k : Fin 2} {z : Int} (n : Nat) (hd : decode M.2.1 pc = .ok (.lconst k, 1)) (hp : pc + 1 = n) (hv : Int64.ofNat (k : Nat) = lI z) (h : J P dp M n L (vl z :: rest) σ Q) : J P dp M pc L rest σ Q := by
  subst hp
  intro B p l e R s m args below meth c C H locs hP hS ls hl
  refine lv_lconst (v := lI z) C.1 C.2.1 hd hv ?_
  exact h B p l e R s m args below meth c C H locs hP hS ls hl
theorem J_ldc2 {idx : Nat} {z : Int} (n : Nat) (hd : decode M.2.1 pc = .ok (.ldc2_w idx, 3)) (hp : pc + 3 = n) (hw : Cond.constantLong M.1 idx (lI z) ∈ jw) (h : J P dp M n L (vl z :: rest) σ Q) : J P dp M pc L rest σ Q := by
  subst hp
  intro B p l e R s m args below meth c C H locs hP hS ls hl
  refine lv_ldc2 (own := M.1) (v := lI z) C.1 C.2.1 C.2.2.2.2.2.1 (C.2.2.2.2.2.2.1 _ hw) hd ?_
  exact h B p l e R s m args below meth c C H locs hP hS ls hl
theorem J_ldcw {idx : Nat} {z : Int} (n : Nat) (hd : decode M.2.1 pc = .ok (.ldc_w idx, 3)) (hp : pc + 3 = n) (hw : Cond.constant M.1 idx (iI z) ∈ jw) (h : J P dp M n L (vi z :: rest) σ Q) : J P dp M pc L rest σ Q := by
  subst hp
  intro B p l e R s m args below meth c C H locs hP hS ls hl
  refine lv_ldcw (own := M.1) (v := iI z) C.1 C.2.1 C.2.2.2.2.2.1 (C.2.2.2.2.2.2.1 _ hw) hd ?_
  exact h B p l e R s m args below meth c C H locs hP hS ls hl
theorem J_iload_n {k : Fin 4} {i : Nat} {x : Int} (n : Nat) (hd : decode M.2.1 pc = .ok (.iload_n k, 1)) (hp : pc + 1 = n) (hi : (k : Nat) = i) (hg : lg L i = some (vi x)) (h : J P dp M n L (vi x :: rest) σ Q) : J P dp M pc L rest σ Q := by
  subst hp
  intro B p l e R s m args below meth c C H locs hP hS ls hl
  refine lv_iload_n C.1 C.2.1 hd hi (hl.2.2 i _ hg) ?_
  exact h B p l e R s m args below meth c C H locs hP hS ls hl
theorem J_iload {i : Nat} {x : Int} (n : Nat) (hd : decode M.2.1 pc = .ok (.iload i, 2)) (hp : pc + 2 = n) (hg : lg L i = some (vi x)) (h : J P dp M n L (vi x :: rest) σ Q) : J P dp M pc L rest σ Q := by
  subst hp
  intro B p l e R s m args below meth c C H locs hP hS ls hl
  refine lv_iload C.1 C.2.1 hd (hl.2.2 i _ hg) ?_
  exact h B p l e R s m args below meth c C H locs hP hS ls hl
theorem J_lload_n {k : Fin 4} {i : Nat} {x : Int} (n : Nat) (hd : decode M.2.1 pc = .ok (.lload_n k, 1)) (hp : pc + 1 = n) (hi : (k : Nat) = i) (hg : lg L i = some (vl x)) (h : J P dp M n L (vl x :: rest) σ Q) : J P dp M pc L rest σ Q := by
  subst hp
  intro B p l e R s m args below meth c C H locs hP hS ls hl
  refine lv_lload_n C.1 C.2.1 hd hi (hl.2.2 i _ hg) ?_
  exact h B p l e R s m args below meth c C H locs hP hS ls hl
theorem J_lload {i : Nat} {x : Int} (n : Nat) (hd : decode M.2.1 pc = .ok (.lload i, 2)) (hp : pc + 2 = n) (hg : lg L i = some (vl x)) (h : J P dp M n L (vl x :: rest) σ Q) : J P dp M pc L rest σ Q := by
  subst hp
  intro B p l e R s m args below meth c C H locs hP hS ls hl
  refine lv_lload C.1 C.2.1 hd (hl.2.2 i _ hg) ?_
  exact h B p l e R s m args below meth c C H locs hP hS ls hl
theorem J_aload_n {k : Fin 4} {i : Nat} {x : Nat} (n : Nat) (hd : decode M.2.1 pc = .ok (.aload_n k, 1)) (hp : pc + 1 = n) (hi : (k : Nat) = i) (hg : lg L i = some (vr P x)) (h : J P dp M n L (vr P x :: rest) σ Q) : J P dp M pc L rest σ Q := by
  subst hp
  intro B p l e R s m args below meth c C H locs hP hS ls hl
  refine lv_aload_n C.1 C.2.1 hd hi (hl.2.2 i _ hg) ?_
  exact h B p l e R s m args below meth c C H locs hP hS ls hl
theorem J_aload {i : Nat} {x : Nat} (n : Nat) (hd : decode M.2.1 pc = .ok (.aload i, 2)) (hp : pc + 2 = n) (hg : lg L i = some (vr P x)) (h : J P dp M n L (vr P x :: rest) σ Q) : J P dp M pc L rest σ Q := by
  subst hp
  intro B p l e R s m args below meth c C H locs hP hS ls hl
  refine lv_aload C.1 C.2.1 hd (hl.2.2 i _ hg) ?_
  exact h B p l e R s m args below meth c C H locs hP hS ls hl
theorem J_istore_n {k : Fin 4} {i : Nat} {x : Int} (n : Nat) (hd : decode M.2.1 pc = .ok (.istore_n k, 1)) (hp : pc + 1 = n) (hi : (k : Nat) = i) (hn : i < M.2.2.1) (h : J P dp M n (lset L i (vi x)) rest σ Q) : J P dp M pc L (vi x :: rest) σ Q := by
  subst hp
  intro B p l e R s m args below meth c C H locs hP hS ls hl
  refine lv_istore_n C.1 C.2.1 hd hi (toA_has hl) hn rfl (fun ls2 hl2 => ?_)
  exact h B p l e R s m args below meth c C H locs hP hS ls2 (jH_set1 hl2)
theorem J_istore {i : Nat} {x : Int} (n : Nat) (hd : decode M.2.1 pc = .ok (.istore i, 2)) (hp : pc + 2 = n) (hn : i < M.2.2.1) (h : J P dp M n (lset L i (vi x)) rest σ Q) : J P dp M pc L (vi x :: rest) σ Q := by
  subst hp
  intro B p l e R s m args below meth c C H locs hP hS ls hl
  refine lv_istore C.1 C.2.1 hd (toA_has hl) hn rfl (fun ls2 hl2 => ?_)
  exact h B p l e R s m args below meth c C H locs hP hS ls2 (jH_set1 hl2)
theorem J_astore_n {k : Fin 4} {i : Nat} {x : Nat} (n : Nat) (hd : decode M.2.1 pc = .ok (.astore_n k, 1)) (hp : pc + 1 = n) (hi : (k : Nat) = i) (hn : i < M.2.2.1) (h : J P dp M n (lset L i (vr P x)) rest σ Q) : J P dp M pc L (vr P x :: rest) σ Q := by
  subst hp
  intro B p l e R s m args below meth c C H locs hP hS ls hl
  refine lv_astore_n C.1 C.2.1 hd hi (toA_has hl) hn rfl (fun ls2 hl2 => ?_)
  exact h B p l e R s m args below meth c C H locs hP hS ls2 (jH_set1 hl2)
theorem J_astore {i : Nat} {x : Nat} (n : Nat) (hd : decode M.2.1 pc = .ok (.astore i, 2)) (hp : pc + 2 = n) (hn : i < M.2.2.1) (h : J P dp M n (lset L i (vr P x)) rest σ Q) : J P dp M pc L (vr P x :: rest) σ Q := by
  subst hp
  intro B p l e R s m args below meth c C H locs hP hS ls hl
  refine lv_astore C.1 C.2.1 hd (toA_has hl) hn rfl (fun ls2 hl2 => ?_)
  exact h B p l e R s m args below meth c C H locs hP hS ls2 (jH_set1 hl2)
theorem J_lstore_n {k : Fin 4} {i : Nat} {x : Int} (n : Nat) (hd : decode M.2.1 pc = .ok (.lstore_n k, 1)) (hp : pc + 1 = n) (hi : (k : Nat) = i) (hn : i + 1 < M.2.2.1) (h : J P dp M n (lclr (lset L i (vl x)) (i + 1)) rest σ Q) : J P dp M pc L (vl x :: rest) σ Q := by
  subst hp
  intro B p l e R s m args below meth c C H locs hP hS ls hl
  refine lv_lstore_n C.1 C.2.1 hd hi (toA_has hl) hn rfl (fun ls2 hl2 => ?_)
  exact h B p l e R s m args below meth c C H locs hP hS ls2 (jH_set2 hl2)
theorem J_lstore {i : Nat} {x : Int} (n : Nat) (hd : decode M.2.1 pc = .ok (.lstore i, 2)) (hp : pc + 2 = n) (hn : i + 1 < M.2.2.1) (h : J P dp M n (lclr (lset L i (vl x)) (i + 1)) rest σ Q) : J P dp M pc L (vl x :: rest) σ Q := by
  subst hp
  intro B p l e R s m args below meth c C H locs hP hS ls hl
  refine lv_lstore C.1 C.2.1 hd (toA_has hl) hn rfl (fun ls2 hl2 => ?_)
  exact h B p l e R s m args below meth c C H locs hP hS ls2 (jH_set2 hl2)
theorem J_iinc {i : Nat} {x v : Int} (n : Nat) (hd : decode M.2.1 pc = .ok (.iinc i v, 3)) (hp : pc + 3 = n) (hn : i < M.2.2.1) (hg : lg L i = some (vi x)) (h : J P dp M n (lset L i (vi (x + v))) rest σ Q) : J P dp M pc L rest σ Q := by
  subst hp
  intro B p l e R s m args below meth c C H locs hP hS ls hl
  obtain ⟨k, hk⟩ := List.getElem?_of_mem (toA_mem hg)
  refine lv_iinc (v := iI (x + v)) C.1 C.2.1 hd (toA_has hl) hk (iI_add x v) hn rfl (fun ls2 hl2 => ?_)
  exact h B p l e R s m args below meth c C H locs hP hS ls2 (jH_set1 hl2)
theorem J_iadd {x y : Int} (n : Nat) (hd : decode M.2.1 pc = .ok (.iadd, 1)) (hp : pc + 1 = n) (h : J P dp M n L (vi (x + y) :: rest) σ Q) : J P dp M pc L (vi y :: vi x :: rest) σ Q := by
  subst hp
  intro B p l e R s m args below meth c C H locs hP hS ls hl
  refine lv_iadd C.1 C.2.1 hd ?_
  rw [iI_add]
  exact h B p l e R s m args below meth c C H locs hP hS ls hl
theorem J_isub {x y : Int} (n : Nat) (hd : decode M.2.1 pc = .ok (.isub, 1)) (hp : pc + 1 = n) (h : J P dp M n L (vi (x - y) :: rest) σ Q) : J P dp M pc L (vi y :: vi x :: rest) σ Q := by
  subst hp
  intro B p l e R s m args below meth c C H locs hP hS ls hl
  refine lv_isub C.1 C.2.1 hd ?_
  rw [iI_sub]
  exact h B p l e R s m args below meth c C H locs hP hS ls hl
theorem J_imul {x y : Int} (n : Nat) (hd : decode M.2.1 pc = .ok (.imul, 1)) (hp : pc + 1 = n) (h : J P dp M n L (vi (x * y) :: rest) σ Q) : J P dp M pc L (vi y :: vi x :: rest) σ Q := by
  subst hp
  intro B p l e R s m args below meth c C H locs hP hS ls hl
  refine lv_imul C.1 C.2.1 hd ?_
  rw [iI_mul]
  exact h B p l e R s m args below meth c C H locs hP hS ls hl
theorem J_ineg {x : Int} (n : Nat) (hd : decode M.2.1 pc = .ok (.ineg, 1)) (hp : pc + 1 = n) (h : J P dp M n L (vi (-x) :: rest) σ Q) : J P dp M pc L (vi x :: rest) σ Q := by
  subst hp
  intro B p l e R s m args below meth c C H locs hP hS ls hl
  refine lv_ineg C.1 C.2.1 hd ?_
  rw [iI_neg]
  exact h B p l e R s m args below meth c C H locs hP hS ls hl
theorem J_ladd {x y : Int} (n : Nat) (hd : decode M.2.1 pc = .ok (.ladd, 1)) (hp : pc + 1 = n) (h : J P dp M n L (vl (x + y) :: rest) σ Q) : J P dp M pc L (vl y :: vl x :: rest) σ Q := by
  subst hp
  intro B p l e R s m args below meth c C H locs hP hS ls hl
  refine lv_ladd C.1 C.2.1 hd ?_
  rw [lI_add]
  exact h B p l e R s m args below meth c C H locs hP hS ls hl
theorem J_lsub {x y : Int} (n : Nat) (hd : decode M.2.1 pc = .ok (.lsub, 1)) (hp : pc + 1 = n) (h : J P dp M n L (vl (x - y) :: rest) σ Q) : J P dp M pc L (vl y :: vl x :: rest) σ Q := by
  subst hp
  intro B p l e R s m args below meth c C H locs hP hS ls hl
  refine lv_lsub C.1 C.2.1 hd ?_
  rw [lI_sub]
  exact h B p l e R s m args below meth c C H locs hP hS ls hl
theorem J_lmul {x y : Int} (n : Nat) (hd : decode M.2.1 pc = .ok (.lmul, 1)) (hp : pc + 1 = n) (h : J P dp M n L (vl (x * y) :: rest) σ Q) : J P dp M pc L (vl y :: vl x :: rest) σ Q := by
  subst hp
  intro B p l e R s m args below meth c C H locs hP hS ls hl
  refine lv_lmul C.1 C.2.1 hd ?_
  rw [lI_mul]
  exact h B p l e R s m args below meth c C H locs hP hS ls hl
theorem J_ior {x y : Int} (n : Nat) (hd : decode M.2.1 pc = .ok (.ior, 1)) (hp : pc + 1 = n) (h : J P dp M n L (vi (ior x y) :: rest) σ Q) (hx : 0 ≤ x ∧ x ≤ 2147483647 := by omega) (hy : 0 ≤ y ∧ y ≤ 2147483647 := by omega) : J P dp M pc L (vi y :: vi x :: rest) σ Q := by
  subst hp
  intro B p l e R s m args below meth c C H locs hP hS ls hl
  refine lv_ior C.1 C.2.1 hd ?_
  rw [iI_or hx hy]
  exact h B p l e R s m args below meth c C H locs hP hS ls hl
theorem J_iand {x y : Int} (n : Nat) (hd : decode M.2.1 pc = .ok (.iand, 1)) (hp : pc + 1 = n) (h : J P dp M n L (vi (iand x y) :: rest) σ Q) (hx : 0 ≤ x ∧ x ≤ 2147483647 := by omega) (hy : 0 ≤ y ∧ y ≤ 2147483647 := by omega) : J P dp M pc L (vi y :: vi x :: rest) σ Q := by
  subst hp
  intro B p l e R s m args below meth c C H locs hP hS ls hl
  refine lv_iand C.1 C.2.1 hd ?_
  rw [iI_and hx hy]
  exact h B p l e R s m args below meth c C H locs hP hS ls hl
theorem J_ixor {x y : Int} (n : Nat) (hd : decode M.2.1 pc = .ok (.ixor, 1)) (hp : pc + 1 = n) (h : J P dp M n L (vi (ixor x y) :: rest) σ Q) (hx : 0 ≤ x ∧ x ≤ 2147483647 := by omega) (hy : 0 ≤ y ∧ y ≤ 2147483647 := by omega) : J P dp M pc L (vi y :: vi x :: rest) σ Q := by
  subst hp
  intro B p l e R s m args below meth c C H locs hP hS ls hl
  refine lv_ixor C.1 C.2.1 hd ?_
  rw [iI_xor hx hy]
  exact h B p l e R s m args below meth c C H locs hP hS ls hl
theorem J_ishl1 {y : Int} (n : Nat) (hd : decode M.2.1 pc = .ok (.ishl, 1)) (hp : pc + 1 = n) (h : J P dp M n L (vi (2 ^ y.toNat) :: rest) σ Q) (hy : 0 ≤ y ∧ y ≤ 30 := by omega) : J P dp M pc L (vi y :: vi 1 :: rest) σ Q := by
  subst hp
  intro B p l e R s m args below meth c C H locs hP hS ls hl
  refine lv_ishl C.1 C.2.1 hd ?_
  rw [iI_shl1 hy]
  exact h B p l e R s m args below meth c C H locs hP hS ls hl
theorem J_ishr {x y : Int} (n : Nat) (hd : decode M.2.1 pc = .ok (.ishr, 1)) (hp : pc + 1 = n) (h : J P dp M n L (vi ((x.toNat / 2 ^ y.toNat : Nat) : Int) :: rest) σ Q) (hx : 0 ≤ x ∧ x ≤ 2147483647 := by omega) (hy : 0 ≤ y ∧ y ≤ 31 := by omega) : J P dp M pc L (vi y :: vi x :: rest) σ Q := by
  subst hp
  intro B p l e R s m args below meth c C H locs hP hS ls hl
  refine lv_ishr C.1 C.2.1 hd ?_
  rw [iI_shr hx hy]
  exact h B p l e R s m args below meth c C H locs hP hS ls hl
theorem J_idiv {x y : Int} (n : Nat) (hd : decode M.2.1 pc = .ok (.idiv, 1)) (hp : pc + 1 = n) (h : J P dp M n L (vi (x / y) :: rest) σ Q) (hx : 0 ≤ x ∧ x ≤ 2147483647 := by omega) (hy : 0 < y ∧ y ≤ 2147483647 := by omega) : J P dp M pc L (vi y :: vi x :: rest) σ Q := by
  subst hp
  intro B p l e R s m args below meth c C H locs hP hS ls hl
  refine lv_idiv C.1 C.2.1 hd (fun z => ?_) ?_
  · have h2 := (iI_eq (a := y) (b := 0) (by omega) (by omega)).mp z
    omega
  · rw [iI_div hx hy]
    exact h B p l e R s m args below meth c C H locs hP hS ls hl
theorem J_irem {x y : Int} (n : Nat) (hd : decode M.2.1 pc = .ok (.irem, 1)) (hp : pc + 1 = n) (h : J P dp M n L (vi (x % y) :: rest) σ Q) (hx : 0 ≤ x ∧ x ≤ 2147483647 := by omega) (hy : 0 < y ∧ y ≤ 2147483647 := by omega) : J P dp M pc L (vi y :: vi x :: rest) σ Q := by
  subst hp
  intro B p l e R s m args below meth c C H locs hP hS ls hl
  refine lv_irem C.1 C.2.1 hd (fun z => ?_) ?_
  · have h2 := (iI_eq (a := y) (b := 0) (by omega) (by omega)).mp z
    omega
  · rw [iI_rem hx hy]
    exact h B p l e R s m args below meth c C H locs hP hS ls hl
theorem J_ldiv {x y : Int} (n : Nat) (hd : decode M.2.1 pc = .ok (.ldiv, 1)) (hp : pc + 1 = n) (h : J P dp M n L (vl (x / y) :: rest) σ Q) (hx : 0 ≤ x ∧ x ≤ 2147483647 := by omega) (hy : 0 < y ∧ y ≤ 2147483647 := by omega) : J P dp M pc L (vl y :: vl x :: rest) σ Q := by
  subst hp
  intro B p l e R s m args below meth c C H locs hP hS ls hl
  refine lv_ldiv C.1 C.2.1 hd (fun z => ?_) ?_
  · have h2 := (lI_eq (a := y) (b := 0) (by omega) (by omega)).mp z
    omega
  · rw [lI_div hx hy]
    exact h B p l e R s m args below meth c C H locs hP hS ls hl
theorem J_lrem {x y : Int} (n : Nat) (hd : decode M.2.1 pc = .ok (.lrem, 1)) (hp : pc + 1 = n) (h : J P dp M n L (vl (x % y) :: rest) σ Q) (hx : 0 ≤ x ∧ x ≤ 2147483647 := by omega) (hy : 0 < y ∧ y ≤ 2147483647 := by omega) : J P dp M pc L (vl y :: vl x :: rest) σ Q := by
  subst hp
  intro B p l e R s m args below meth c C H locs hP hS ls hl
  refine lv_lrem C.1 C.2.1 hd (fun z => ?_) ?_
  · have h2 := (lI_eq (a := y) (b := 0) (by omega) (by omega)).mp z
    omega
  · rw [lI_rem hx hy]
    exact h B p l e R s m args below meth c C H locs hP hS ls hl
theorem J_i2b {x : Int} (n : Nat) (hd : decode M.2.1 pc = .ok (.i2b, 1)) (hp : pc + 1 = n) (h : J P dp M n L (vi (x.bmod 256) :: rest) σ Q) (hx : inR x := by omega) : J P dp M pc L (vi x :: rest) σ Q := by
  subst hp
  intro B p l e R s m args below meth c C H locs hP hS ls hl
  refine lv_i2b (v := iI (x.bmod 256)) C.1 C.2.1 hd (iI_b x hx) ?_
  exact h B p l e R s m args below meth c C H locs hP hS ls hl
theorem J_i2s {x : Int} (n : Nat) (hd : decode M.2.1 pc = .ok (.i2s, 1)) (hp : pc + 1 = n) (h : J P dp M n L (vi (x.bmod 65536) :: rest) σ Q) (hx : inR x := by omega) : J P dp M pc L (vi x :: rest) σ Q := by
  subst hp
  intro B p l e R s m args below meth c C H locs hP hS ls hl
  refine lv_i2s (v := iI (x.bmod 65536)) C.1 C.2.1 hd (iI_s x hx) ?_
  exact h B p l e R s m args below meth c C H locs hP hS ls hl
theorem J_i2l {x : Int} (n : Nat) (hd : decode M.2.1 pc = .ok (.i2l, 1)) (hp : pc + 1 = n) (h : J P dp M n L (vl x :: rest) σ Q) (hx : inR x := by omega) : J P dp M pc L (vi x :: rest) σ Q := by
  subst hp
  intro B p l e R s m args below meth c C H locs hP hS ls hl
  refine lv_i2l (v := lI x) C.1 C.2.1 hd (iI_l hx) ?_
  exact h B p l e R s m args below meth c C H locs hP hS ls hl
theorem J_lcmp {x y : Int} (n : Nat) (hd : decode M.2.1 pc = .ok (.lcmp, 1)) (hp : pc + 1 = n) (h : J P dp M n L (vi (if y < x then 1 else if x = y then 0 else -1) :: rest) σ Q) (hx : inL x := by omega) (hy : inL y := by omega) : J P dp M pc L (vl y :: vl x :: rest) σ Q := by
  subst hp
  intro B p l e R s m args below meth c C H locs hP hS ls hl
  refine W.lcmp C.1 C.2.1 hd ?_
  rw [lI_cmp hx hy]
  exact h B p l e R s m args below meth c C H locs hP hS ls hl
theorem J_dup {v : Value} (n : Nat) (hd : decode M.2.1 pc = .ok (.dup, 1)) (hp : pc + 1 = n) (hv : v.category = 1) (h : J P dp M n L (v :: v :: rest) σ Q) : J P dp M pc L (v :: rest) σ Q := by
  subst hp
  intro B p l e R s m args below meth c C H locs hP hS ls hl
  refine lv_dup C.1 C.2.1 hd hv ?_
  exact h B p l e R s m args below meth c C H locs hP hS ls hl
theorem J_dup2 {v u : Value} (n : Nat) (hd : decode M.2.1 pc = .ok (.dup2, 1)) (hp : pc + 1 = n) (hv : v.category = 1) (hu : u.category = 1) (h : J P dp M n L (v :: u :: v :: u :: rest) σ Q) : J P dp M pc L (v :: u :: rest) σ Q := by
  subst hp
  intro B p l e R s m args below meth c C H locs hP hS ls hl
  refine lv_dup2_11 C.1 C.2.1 hd hv hu ?_
  exact h B p l e R s m args below meth c C H locs hP hS ls hl
theorem J_icmp_eq {x y off : Int} (tgt n : Nat) (hd : decode M.2.1 pc = .ok (.if_icmp .eq off, 3)) (ht : (pc : Int) + off = (tgt : Int)) (hp : pc + 3 = n) (h1 : x = y → J P dp M tgt L rest σ Q) (h2 : ¬ x = y → J P dp M n L rest σ Q) (hx : inR x := by omega) (hy : inR y := by omega) : J P dp M pc L (vi y :: vi x :: rest) σ Q := by
  subst hp
  intro B p l e R s m args below meth c C H locs hP hS ls hl
  refine lv_icmp_eq C.1 C.2.1 hd ht (fun q => ?_) (fun q => ?_)
  · exact h1 ((iI_eq hx hy).mp q) B p l e R s m args below meth c C H locs hP hS ls hl
  · exact h2 (fun z => q ((iI_eq hx hy).mpr z)) B p l e R s m args below meth c C H locs hP hS ls hl
theorem inR0 : inR 0 := by omega
theorem J_if_eq {x off : Int} (tgt n : Nat) (hd : decode M.2.1 pc = .ok (.ifCond .eq off, 3)) (ht : (pc : Int) + off = (tgt : Int)) (hp : pc + 3 = n) (h1 : x = 0 → J P dp M tgt L rest σ Q) (h2 : ¬ x = 0 → J P dp M n L rest σ Q) (hx : inR x := by omega) : J P dp M pc L (vi x :: rest) σ Q := by
  subst hp
  intro B p l e R s m args below meth c C H locs hP hS ls hl
  refine lv_if_eq C.1 C.2.1 hd ht (fun q => ?_) (fun q => ?_)
  · exact h1 ((iI_eq hx inR0).mp q) B p l e R s m args below meth c C H locs hP hS ls hl
  · exact h2 (fun z => q ((iI_eq hx inR0).mpr z)) B p l e R s m args below meth c C H locs hP hS ls hl
theorem J_icmp_ne {x y off : Int} (tgt n : Nat) (hd : decode M.2.1 pc = .ok (.if_icmp .ne off, 3)) (ht : (pc : Int) + off = (tgt : Int)) (hp : pc + 3 = n) (h1 : ¬ x = y → J P dp M tgt L rest σ Q) (h2 : x = y → J P dp M n L rest σ Q) (hx : inR x := by omega) (hy : inR y := by omega) : J P dp M pc L (vi y :: vi x :: rest) σ Q := by
  subst hp
  intro B p l e R s m args below meth c C H locs hP hS ls hl
  refine lv_icmp_ne C.1 C.2.1 hd ht (fun q => ?_) (fun q => ?_)
  · exact h1 (fun z => q ((iI_eq hx hy).mpr z)) B p l e R s m args below meth c C H locs hP hS ls hl
  · exact h2 ((iI_eq hx hy).mp q) B p l e R s m args below meth c C H locs hP hS ls hl
theorem J_if_ne {x off : Int} (tgt n : Nat) (hd : decode M.2.1 pc = .ok (.ifCond .ne off, 3)) (ht : (pc : Int) + off = (tgt : Int)) (hp : pc + 3 = n) (h1 : ¬ x = 0 → J P dp M tgt L rest σ Q) (h2 : x = 0 → J P dp M n L rest σ Q) (hx : inR x := by omega) : J P dp M pc L (vi x :: rest) σ Q := by
  subst hp
  intro B p l e R s m args below meth c C H locs hP hS ls hl
  refine lv_if_ne C.1 C.2.1 hd ht (fun q => ?_) (fun q => ?_)
  · exact h1 (fun z => q ((iI_eq hx inR0).mpr z)) B p l e R s m args below meth c C H locs hP hS ls hl
  · exact h2 ((iI_eq hx inR0).mp q) B p l e R s m args below meth c C H locs hP hS ls hl
theorem J_icmp_lt {x y off : Int} (tgt n : Nat) (hd : decode M.2.1 pc = .ok (.if_icmp .lt off, 3)) (ht : (pc : Int) + off = (tgt : Int)) (hp : pc + 3 = n) (h1 : x < y → J P dp M tgt L rest σ Q) (h2 : ¬ x < y → J P dp M n L rest σ Q) (hx : inR x := by omega) (hy : inR y := by omega) : J P dp M pc L (vi y :: vi x :: rest) σ Q := by
  subst hp
  intro B p l e R s m args below meth c C H locs hP hS ls hl
  refine lv_icmp_lt C.1 C.2.1 hd ht (fun q => ?_) (fun q => ?_)
  · exact h1 ((iI_lt hx hy).mp q) B p l e R s m args below meth c C H locs hP hS ls hl
  · exact h2 (fun z => q ((iI_lt hx hy).mpr z)) B p l e R s m args below meth c C H locs hP hS ls hl
theorem J_if_lt {x off : Int} (tgt n : Nat) (hd : decode M.2.1 pc = .ok (.ifCond .lt off, 3)) (ht : (pc : Int) + off = (tgt : Int)) (hp : pc + 3 = n) (h1 : x < 0 → J P dp M tgt L rest σ Q) (h2 : ¬ x < 0 → J P dp M n L rest σ Q) (hx : inR x := by omega) : J P dp M pc L (vi x :: rest) σ Q := by
  subst hp
  intro B p l e R s m args below meth c C H locs hP hS ls hl
  refine lv_if_lt C.1 C.2.1 hd ht (fun q => ?_) (fun q => ?_)
  · exact h1 ((iI_lt hx inR0).mp q) B p l e R s m args below meth c C H locs hP hS ls hl
  · exact h2 (fun z => q ((iI_lt hx inR0).mpr z)) B p l e R s m args below meth c C H locs hP hS ls hl
theorem J_icmp_ge {x y off : Int} (tgt n : Nat) (hd : decode M.2.1 pc = .ok (.if_icmp .ge off, 3)) (ht : (pc : Int) + off = (tgt : Int)) (hp : pc + 3 = n) (h1 : y ≤ x → J P dp M tgt L rest σ Q) (h2 : ¬ y ≤ x → J P dp M n L rest σ Q) (hx : inR x := by omega) (hy : inR y := by omega) : J P dp M pc L (vi y :: vi x :: rest) σ Q := by
  subst hp
  intro B p l e R s m args below meth c C H locs hP hS ls hl
  refine lv_icmp_ge C.1 C.2.1 hd ht (fun q => ?_) (fun q => ?_)
  · exact h1 ((iI_le hy hx).mp q) B p l e R s m args below meth c C H locs hP hS ls hl
  · exact h2 (fun z => q ((iI_le hy hx).mpr z)) B p l e R s m args below meth c C H locs hP hS ls hl
theorem J_if_ge {x off : Int} (tgt n : Nat) (hd : decode M.2.1 pc = .ok (.ifCond .ge off, 3)) (ht : (pc : Int) + off = (tgt : Int)) (hp : pc + 3 = n) (h1 : 0 ≤ x → J P dp M tgt L rest σ Q) (h2 : ¬ 0 ≤ x → J P dp M n L rest σ Q) (hx : inR x := by omega) : J P dp M pc L (vi x :: rest) σ Q := by
  subst hp
  intro B p l e R s m args below meth c C H locs hP hS ls hl
  refine lv_if_ge C.1 C.2.1 hd ht (fun q => ?_) (fun q => ?_)
  · exact h1 ((iI_le inR0 hx).mp q) B p l e R s m args below meth c C H locs hP hS ls hl
  · exact h2 (fun z => q ((iI_le inR0 hx).mpr z)) B p l e R s m args below meth c C H locs hP hS ls hl
theorem J_icmp_gt {x y off : Int} (tgt n : Nat) (hd : decode M.2.1 pc = .ok (.if_icmp .gt off, 3)) (ht : (pc : Int) + off = (tgt : Int)) (hp : pc + 3 = n) (h1 : y < x → J P dp M tgt L rest σ Q) (h2 : ¬ y < x → J P dp M n L rest σ Q) (hx : inR x := by omega) (hy : inR y := by omega) : J P dp M pc L (vi y :: vi x :: rest) σ Q := by
  subst hp
  intro B p l e R s m args below meth c C H locs hP hS ls hl
  refine lv_icmp_gt C.1 C.2.1 hd ht (fun q => ?_) (fun q => ?_)
  · exact h1 ((iI_lt hy hx).mp q) B p l e R s m args below meth c C H locs hP hS ls hl
  · exact h2 (fun z => q ((iI_lt hy hx).mpr z)) B p l e R s m args below meth c C H locs hP hS ls hl
theorem J_if_gt {x off : Int} (tgt n : Nat) (hd : decode M.2.1 pc = .ok (.ifCond .gt off, 3)) (ht : (pc : Int) + off = (tgt : Int)) (hp : pc + 3 = n) (h1 : 0 < x → J P dp M tgt L rest σ Q) (h2 : ¬ 0 < x → J P dp M n L rest σ Q) (hx : inR x := by omega) : J P dp M pc L (vi x :: rest) σ Q := by
  subst hp
  intro B p l e R s m args below meth c C H locs hP hS ls hl
  refine lv_if_gt C.1 C.2.1 hd ht (fun q => ?_) (fun q => ?_)
  · exact h1 ((iI_lt inR0 hx).mp q) B p l e R s m args below meth c C H locs hP hS ls hl
  · exact h2 (fun z => q ((iI_lt inR0 hx).mpr z)) B p l e R s m args below meth c C H locs hP hS ls hl
theorem J_icmp_le {x y off : Int} (tgt n : Nat) (hd : decode M.2.1 pc = .ok (.if_icmp .le off, 3)) (ht : (pc : Int) + off = (tgt : Int)) (hp : pc + 3 = n) (h1 : x ≤ y → J P dp M tgt L rest σ Q) (h2 : ¬ x ≤ y → J P dp M n L rest σ Q) (hx : inR x := by omega) (hy : inR y := by omega) : J P dp M pc L (vi y :: vi x :: rest) σ Q := by
  subst hp
  intro B p l e R s m args below meth c C H locs hP hS ls hl
  refine lv_icmp_le C.1 C.2.1 hd ht (fun q => ?_) (fun q => ?_)
  · exact h1 ((iI_le hx hy).mp q) B p l e R s m args below meth c C H locs hP hS ls hl
  · exact h2 (fun z => q ((iI_le hx hy).mpr z)) B p l e R s m args below meth c C H locs hP hS ls hl
theorem J_if_le {x off : Int} (tgt n : Nat) (hd : decode M.2.1 pc = .ok (.ifCond .le off, 3)) (ht : (pc : Int) + off = (tgt : Int)) (hp : pc + 3 = n) (h1 : x ≤ 0 → J P dp M tgt L rest σ Q) (h2 : ¬ x ≤ 0 → J P dp M n L rest σ Q) (hx : inR x := by omega) : J P dp M pc L (vi x :: rest) σ Q := by
  subst hp
  intro B p l e R s m args below meth c C H locs hP hS ls hl
  refine lv_if_le C.1 C.2.1 hd ht (fun q => ?_) (fun q => ?_)
  · exact h1 ((iI_le hx inR0).mp q) B p l e R s m args below meth c C H locs hP hS ls hl
  · exact h2 (fun z => q ((iI_le hx inR0).mpr z)) B p l e R s m args below meth c C H locs hP hS ls hl
/-- a truth as a number -/
def b01 (p : Prop) [Decidable p] : Int := if p then 1 else 0
theorem b01_in (p : Prop) [Decidable p] : 0 ≤ b01 p ∧ b01 p ≤ 1 := by unfold b01; split <;> omega
theorem b01_t {p : Prop} [Decidable p] (h : p) : b01 p = 1 := by unfold b01; rw [if_pos h]
theorem b01_f {p : Prop} [Decidable p] (h : ¬ p) : b01 p = 0 := by unfold b01; rw [if_neg h]
theorem b01_0 {p : Prop} [Decidable p] : b01 p = 0 ↔ ¬ p := by unfold b01; split <;> simp_all
theorem J_bif_eq {q : Prop} [Decidable q] {off : Int} (tgt n : Nat) (hd : decode M.2.1 pc = .ok (.ifCond .eq off, 3)) (ht : (pc : Int) + off = (tgt : Int)) (hp : pc + 3 = n) (h1 : ¬ q → J P dp M tgt L rest σ Q) (h2 : q → J P dp M n L rest σ Q) : J P dp M pc L (vi (b01 q) :: rest) σ Q :=
  J_if_eq tgt n hd ht hp (fun z => h1 (b01_0.mp z)) (fun z => h2 (Decidable.not_not.mp fun y => z (b01_0.mpr y))) (by have := b01_in q; omega)
theorem J_bif_ne {q : Prop} [Decidable q] {off : Int} (tgt n : Nat) (hd : decode M.2.1 pc = .ok (.ifCond .ne off, 3)) (ht : (pc : Int) + off = (tgt : Int)) (hp : pc + 3 = n) (h1 : q → J P dp M tgt L rest σ Q) (h2 : ¬ q → J P dp M n L rest σ Q) : J P dp M pc L (vi (b01 q) :: rest) σ Q :=
  J_if_ne tgt n hd ht hp (fun z => h1 (Decidable.not_not.mp fun y => z (b01_0.mpr y))) (fun z => h2 (b01_0.mp z)) (by have := b01_in q; omega)
theorem J_goto {off : Int} (tgt : Nat) (hd : decode M.2.1 pc = .ok (.goto off, 3)) (ht : (pc : Int) + off = (tgt : Int)) (h : J P dp M tgt L rest σ Q) : J P dp M pc L rest σ Q := by
  intro B p l e R s m args below meth c C H locs hP hS ls hl
  refine lv_goto C.1 C.2.1 hd ht ?_
  exact h B p l e R s m args below meth c C H locs hP hS ls hl
theorem J_tableOut {dflt lo hi x : Int} {offs : Array Int} {len : Nat} (tgt : Nat) (hd : decode M.2.1 pc = .ok (.tableswitch dflt lo hi offs, len)) (ht : (pc : Int) + dflt = (tgt : Int)) (h : J P dp M tgt L rest σ Q) (hx : inR x := by omega) (ho : x < lo ∨ hi < x := by omega) : J P dp M pc L (vi x :: rest) σ Q := by
  intro B p l e R s m args below meth c C H locs hP hS ls hl
  refine lv_tableOut C.1 C.2.1 hd (by rw [iI_toInt hx]; exact ho) ht ?_
  exact h B p l e R s m args below meth c C H locs hP hS ls hl
theorem J_tableIn {dflt lo hi x off : Int} {offs : Array Int} {len : Nat} (tgt : Nat) (hd : decode M.2.1 pc = .ok (.tableswitch dflt lo hi offs, len)) (hof : offs[(x - lo).toNat]? = some off) (ht : (pc : Int) + off = (tgt : Int)) (h : J P dp M tgt L rest σ Q) (hx : inR x := by omega) (h1 : ¬ x < lo := by omega) (h2 : ¬ hi < x := by omega) : J P dp M pc L (vi x :: rest) σ Q := by
  intro B p l e R s m args below meth c C H locs hP hS ls hl
  refine lv_tableIn C.1 C.2.1 hd (by rw [iI_toInt hx]; exact h1) (by rw [iI_toInt hx]; exact h2) (by rw [iI_toInt hx]; exact hof) ht ?_
  exact h B p l e R s m args below meth c C H locs hP hS ls hl
theorem J_lookup {dflt x off : Int} {ps : Array (Int × Int)} {len : Nat} (tgt : Nat) (hd : decode M.2.1 pc = .ok (.lookupswitch dflt ps, len)) (hs : (ps.toList.zip (ps.toList.drop 1)).all (fun (a, next) => a.1 < next.1) = true) (ho : Op.lookupswitch.offset ps.toList dflt x = off) (ht : (pc : Int) + off = (tgt : Int)) (h : J P dp M tgt L rest σ Q) (hx : inR x := by omega) : J P dp M pc L (vi x :: rest) σ Q := by
  intro B p l e R s m args below meth c C H locs hP hS ls hl
  refine lv_lookup C.1 C.2.1 hd hs (by rw [iI_toInt hx]; exact ho) ht ?_
  exact h B p l e R s m args below meth c C H locs hP hS ls hl
theorem jkd_lt {k : Nat} (h : jkd k ≤ 11) : k < 65 := by
  rcases Nat.lt_or_ge k 65 with q | q
  · exact q
  · exfalso
    have e : jkd k = 99 := by
      unfold jkd
      rw [List.getD_eq_getElem?_getD, List.getElem?_eq_none (by simpa [jkdl] using q)]
      rfl
    omega
theorem jln_le (k : Nat) : jln k ≤ 301 := by
  have key : ∀ x ∈ jlnl, x ≤ 301 := by decide +kernel
  unfold jln
  rw [List.getD_eq_getElem?_getD]
  cases h : jlnl[k]? with
  | none => simp
  | some x => exact key x (List.mem_of_getElem? h)
theorem jce_obj {k : Nat} {f : Int → Int} (h : jkd k < 10) : jce P k f = .inr (jkd k, jfv P f 0 (jrf k)) := by
  unfold jce
  rw [if_neg (by omega), if_neg (by omega)]
theorem jce_arr {k : Nat} {f : Int → Int} (h : jkd k = 10) : jce P k f = .inl (P.2.2.1, jln k, .inl (fun j => iI (f (j : Int)))) := by
  unfold jce
  rw [if_pos h]
theorem vwCl_lt {ci : Nat} {q : vw_C} (h : vwCl[ci]? = some q) : ci < 10 := by
  have := (List.getElem?_eq_some_iff.mp h).1
  simpa [vwCl] using this
theorem J_getI {k idx ci j : Nat} {jz lo hi : Int} (n : Nat) (hd : decode M.2.1 pc = .ok (.getfield idx, 3)) (hp : pc + 3 = n) (hf : jF M.1 idx ci j) (hk : jkd k = ci) (hr : (jrf k)[j]? = some none) (hj : ((j : Nat) : Int) = jz) (hb : jbd k j = (lo, hi)) (h : lo ≤ σ k jz → σ k jz ≤ hi → J P dp M n L (vi (σ k jz) :: rest) σ Q) : J P dp M pc L (vr P k :: rest) σ Q := by
  subst hp
  intro B p l e R s m args below meth c C H locs hP hS ls hl
  obtain ⟨Cn, T, N, ty, f1, f2, f3, f4, f5, f6⟩ := hf
  subst hk; subst hj
  have hc := vwCl_lt f1
  have hk5 := jkd_lt (k := k) (by omega)
  have hbb := B k ((j : Nat) : Int)
  have hbe : jbi k ((j : Nat) : Int) = (lo, hi) := by unfold jbi; rw [if_neg (by omega), Int.toNat_natCast]; exact hb
  rw [hbe] at hbb
  refine va_get (own := M.1) (tys := jty P) C.1 C.2.1 C.2.2.2.2.2.2.1 f4 C.2.2.2.2.2.1 C.2.2.2.2.2.2.2.1 hP k (fs := jfv P (σ k) 0 (jrf k)) (by rw [jwd_at hk5, jce_obj hc]) f1 j f2 (C.2.2.2.2.2.2.1 _ f3) (fun _ q => q) (v := vi (σ k ((j : Nat) : Int))) (by have := jfv_get (P := P) (f := σ k) (i := 0) hr; simpa using this) hd ?_
  exact h hbb.1 hbb.2 B p l e R s m args below meth c C H locs hP hS ls hl
theorem J_getR {k idx ci j r : Nat} (n : Nat) (hd : decode M.2.1 pc = .ok (.getfield idx, 3)) (hp : pc + 3 = n) (hf : jF M.1 idx ci j) (hk : jkd k = ci) (hr : (jrf k)[j]? = some (some r)) (h : J P dp M n L (vr P r :: rest) σ Q) : J P dp M pc L (vr P k :: rest) σ Q := by
  subst hp
  intro B p l e R s m args below meth c C H locs hP hS ls hl
  obtain ⟨Cn, T, N, ty, f1, f2, f3, f4, f5, f6⟩ := hf
  subst hk
  have hc := vwCl_lt f1
  have hk5 := jkd_lt (k := k) (by omega)
  refine va_get (own := M.1) (tys := jty P) C.1 C.2.1 C.2.2.2.2.2.2.1 f4 C.2.2.2.2.2.1 C.2.2.2.2.2.2.2.1 hP k (fs := jfv P (σ k) 0 (jrf k)) (by rw [jwd_at hk5, jce_obj hc]) f1 j f2 (C.2.2.2.2.2.2.1 _ f3) (fun _ q => q) (v := vr P r) (by have := jfv_get (P := P) (f := σ k) (i := 0) hr; simpa using this) hd ?_
  exact h B p l e R s m args below meth c C H locs hP hS ls hl
theorem J_putI {k idx ci j : Nat} {jz lo hi z : Int} (n : Nat) (hd : decode M.2.1 pc = .ok (.putfield idx, 3)) (hp : pc + 3 = n) (hf : jG M.1 idx ci j) (hk : jkd k = ci) (hr : (jrf k)[j]? = some none) (hj : ((j : Nat) : Int) = jz) (hb : jbd k j = (lo, hi)) (h : J P dp M n L rest (jup σ k jz z) Q) (hz : lo ≤ z ∧ z ≤ hi := by omega) : J P dp M pc L (vi z :: vr P k :: rest) σ Q := by
  subst hp
  intro B p l e R s m args below meth c C H locs hP hS ls hl
  obtain ⟨Cn, T, N, ty, f1, f2, f3, f4, f5, f6, f7, f8⟩ := hf
  subst hk; subst hj
  have hc := vwCl_lt f1
  have hk5 := jkd_lt (k := k) (by omega)
  have hbe : jbi k ((j : Nat) : Int) = (lo, hi) := by unfold jbi; rw [if_neg (by omega), Int.toNat_natCast]; exact hb
  have hl0 : j < (jrf k).length := (List.getElem?_eq_some_iff.mp hr).1
  refine va_put (own := M.1) (tys := jty P) C.1 C.2.1 C.2.2.2.2.2.2.1 f4 ty f5 f6 C.2.2.2.2.2.1 C.2.2.2.2.2.2.2.1 hP (jwd_D C.2.2.2.2.2.2.2.2.1 σ) hS k (fs := jfv P (σ k) 0 (jrf k)) (by rw [jwd_at hk5, jce_obj hc]) f1 j f2 (C.2.2.2.2.2.2.1 _ f3) (fun _ q => q) f7 f8 (vp_nar_int _) rfl (by rw [jfv_len]; exact hl0) hd (fun H1 locs1 hP1 _ hS1 => ?_)
  have e1 : (jad P k, (Sum.inr (jkd k, (jfv P (σ k) 0 (jrf k)).set j (vi z)) : va_E)) = (jad P k, jce P k (fun j' => if j' = ((j : Nat) : Int) then z else σ k j')) := by
    rw [jce_obj hc, jfv_set hr, Nat.zero_add]
  rw [e1, jwd_set _ hk5, jup_eq] at hP1
  exact h (jBd_up B (by rw [hbe]; exact hz.1) (by rw [hbe]; exact hz.2)) p l e R s m args below meth c C H1 locs1 hP1 hS1 ls hl
theorem J_iald {a : Nat} {i lo hi N : Int} (n : Nat) (hd : decode M.2.1 pc = .ok (.iaload, 1)) (hp : pc + 1 = n) (hk : jkd a = 10) (hn : ((jln a : Nat) : Int) = N) (hb : jbd a 0 = (lo, hi)) (h : lo ≤ σ a i → σ a i ≤ hi → J P dp M n L (vi (σ a i) :: rest) σ Q) (h0 : 0 ≤ i ∧ i < N := by omega) : J P dp M pc L (vi i :: vr P a :: rest) σ Q := by
  subst hp
  intro B p l e R s m args below meth c C H locs hP hS ls hl
  subst hn
  have hk5 := jkd_lt (k := a) (by omega)
  have hbb := B a i
  have hbe : jbi a i = (lo, hi) := by unfold jbi; rw [if_pos hk]; exact hb
  rw [hbe] at hbb
  have hle := jln_le a
  refine va_iald (tys := jty P) C.1 C.2.1 C.2.2.2.2.2.2.2.1 hP a 0 (f := fun j => iI (σ a (j : Int))) (by rw [jwd_at hk5, jce_arr hk]) rfl (iI_in h0.1 h0.2 (by omega)) hd ?_
  have ee : (((iI i).toNatClampNeg : Nat) : Int) = i := by rw [iI_cl (by omega)]; omega
  rw [ee]
  exact h hbb.1 hbb.2 B p l e R s m args below meth c C H locs hP hS ls hl
theorem J_iast {a : Nat} {i z lo hi N : Int} (n : Nat) (hd : decode M.2.1 pc = .ok (.iastore, 1)) (hp : pc + 1 = n) (hk : jkd a = 10) (hn : ((jln a : Nat) : Int) = N) (hb : jbd a 0 = (lo, hi)) (h : J P dp M n L rest (jup σ a i z) Q) (h0 : 0 ≤ i ∧ i < N := by omega) (hz : lo ≤ z ∧ z ≤ hi := by omega) : J P dp M pc L (vi z :: vi i :: vr P a :: rest) σ Q := by
  subst hp
  intro B p l e R s m args below meth c C H locs hP hS ls hl
  subst hn
  have hk5 := jkd_lt (k := a) (by omega)
  have hbe : jbi a i = (lo, hi) := by unfold jbi; rw [if_pos hk]; exact hb
  have hle := jln_le a
  refine va_iast (tys := jty P) C.1 C.2.1 C.2.2.2.2.2.2.2.1 hP (jwd_D C.2.2.2.2.2.2.2.2.1 σ) hS a 0 (f := fun j => iI (σ a (j : Int))) (by rw [jwd_at hk5, jce_arr hk]) rfl (iI_in h0.1 h0.2 (by omega)) hd (fun H1 locs1 hP1 _ hS1 => ?_)
  have e0 : (upd (fun j : Nat => iI (σ a (j : Int))) (iI i).toNatClampNeg (iI z)) = fun j : Nat => iI ((fun j' : Int => if j' = i then z else σ a j') (j : Int)) := by
    funext j
    rw [iI_cl (by omega)]
    by_cases q : j = i.toNat
    · subst q
      rw [pk_us]
      show iI z = iI (if ((i.toNat : Nat) : Int) = i then z else _)
      rw [if_pos (by omega)]
    · rw [pk_un q]
      show _ = iI (if (j : Int) = i then z else _)
      rw [if_neg (by omega)]
  rw [e0] at hP1
  have e1 : (jad P a, (Sum.inl (P.2.2.1, jln a, Sum.inl (fun j : Nat => iI ((fun j' : Int => if j' = i then z else σ a j') (j : Int)))) : va_E)) = (jad P a, jce P a (fun j' => if j' = i then z else σ a j')) := by
    rw [jce_arr hk]
  rw [e1, jwd_set _ hk5, jup_eq] at hP1
  exact h (jBd_up B (by rw [hbe]; exact hz.1) (by rw [hbe]; exact hz.2)) p l e R s m args below meth c C H1 locs1 hP1 hS1 ls hl
theorem J_aald {i : Int} (n : Nat) (hd : decode M.2.1 pc = .ok (.aaload, 1)) (hp : pc + 1 = n) (h : J P dp M n L (vr P (28 + 2 * i.toNat) :: rest) σ Q) (h0 : 0 ≤ i ∧ i < 4 := by omega) : J P dp M pc L (vi i :: vr P 27 :: rest) σ Q := by
  subst hp
  intro B p l e R s m args below meth c C H locs hP hS ls hl
  refine va_aldq (tys := jty P) C.1 C.2.1 C.2.2.2.2.2.2.2.1 hP 27 1 (n := 4) (f := fun j => some (jad P (28 + 2 * j))) (by rw [jwd_at (by omega)]; rfl) rfl (iI_in h0.1 (by omega) (by omega)) hd ?_
  have ee : (iI i).toNatClampNeg = i.toNat := iI_cl (by omega)
  rw [ee]
  exact h B p l e R s m args below meth c C H locs hP hS ls hl
def jcpF (σ : jS) (a : Nat) (sp : Int) (b : Nat) (dq n : Int) (j' : Int) : Int := if dq ≤ j' ∧ j' < dq + n then σ a (sp + (j' - dq)) else σ b j'
theorem J_copy {a b idx : Nat} {sp dq z Na Nb : Int} (n : Nat) (hd : decode M.2.1 pc = .ok (.invokestatic idx, 3)) (hp : pc + 3 = n) (hw : Cond.methodLink M.1 idx arraycopyName ∈ jw) (hka : jkd a = 10) (hkb : jkd b = 10) (hna : ((jln a : Nat) : Int) = Na) (hnb : ((jln b : Nat) : Int) = Nb) (hab : jbd a 0 = jbd b 0) (hd2 : 2 ≤ dp) (hrs : rest = []) (h : J P dp M n L rest (jset σ b (jcpF σ a sp b dq z)) Q) (h0 : 0 ≤ sp ∧ 0 ≤ dq ∧ 0 ≤ z ∧ sp + z ≤ Na ∧ dq + z ≤ Nb := by omega) : J P dp M pc L (vi z :: vi dq :: vr P b :: vi sp :: vr P a :: rest) σ Q := by
  subst hp
  intro B p l e R s m args below meth c C H locs hP hS ls hl
  subst hna; subst hnb; subst hrs
  obtain ⟨g1, g2, g3, g4, g5⟩ := h0
  have hka5 := jkd_lt (k := a) (by omega)
  have hkb5 := jkd_lt (k := b) (by omega)
  have la := jln_le a
  have lb := jln_le b
  have hR1 := C.2.2.2.2.2.2.2.2.2.1
  have hR2 := C.2.2.2.2.2.2.2.2.2.2.1
  have ht := C.2.2.2.2.2.2.1
  have n0 : ∀ x : Int, 0 ≤ x → x ≤ 1000 → ¬ iI x < 0 := fun x h1 h2 q => by
    have := (iI_lt (a := x) (b := 0) (by omega) (by omega)).mp q
    omega
  have c0 : ∀ x : Int, 0 ≤ x → x ≤ 1000 → (iI x).toNatClampNeg = x.toNat := fun x h1 h2 => iI_cl (by omega)
  refine va_copyi (tys := jty P) (ty := .int) C.1 C.2.1 (C.2.2.1.trans hl.1.symm) C.2.2.2.2.2.1 (ht _ hw) (ht _ jw_native) (ht _ jw_static) (ht _ jw_sysinit) C.2.2.2.2.2.2.2.1 hP (jwd_D C.2.2.2.2.2.2.2.2.1 σ) hS a b 0 0 (f := fun j => iI (σ a (j : Int))) (g := fun j => iI (σ b (j : Int))) (by rw [jwd_at hka5, jce_arr hka]) (by rw [jwd_at hkb5, jce_arr hkb]) rfl rfl rfl (n0 _ (by omega) (by omega)) (n0 _ (by omega) (by omega)) (n0 _ (by omega) (by omega)) (by rw [c0 _ (by omega) (by omega), c0 _ (by omega) (by omega)]; omega) (by rw [c0 _ (by omega) (by omega), c0 _ (by omega) (by omega)]; omega) (fun _ _ => rfl) (by omega) (by show 0 + (5 + 2 + 11) ≤ _; omega) hd (fun H1 locs1 hP1 _ hS1 => ?_)
  have e0 : va_cpy (fun j : Nat => iI (σ a (j : Int))) (fun j : Nat => iI (σ b (j : Int))) (iI sp).toNatClampNeg (iI dq).toNatClampNeg (iI z).toNatClampNeg = fun j : Nat => iI ((fun j' : Int => if dq ≤ j' ∧ j' < dq + z then σ a (sp + (j' - dq)) else σ b j') (j : Int)) := by
    funext j
    rw [c0 sp (by omega) (by omega), c0 dq (by omega) (by omega), c0 z (by omega) (by omega)]
    by_cases q : dq ≤ (j : Int) ∧ (j : Int) < dq + z
    · rw [pk_cpy_in (by omega) (by omega)]
      show _ = iI (if _ then _ else _)
      rw [if_pos q]
      congr 2
      omega
    · rw [pk_cpy_out (by omega)]
      show _ = iI (if _ then _ else _)
      rw [if_neg q]
  rw [e0] at hP1
  have e1 : (jad P b, (Sum.inl (P.2.2.1, jln b, Sum.inl (fun j : Nat => iI ((fun j' : Int => if dq ≤ j' ∧ j' < dq + z then σ a (sp + (j' - dq)) else σ b j') (j : Int)))) : va_E)) = (jad P b, jce P b (jcpF σ a sp b dq z)) := by
    rw [jce_arr hkb]
    rfl
  rw [e1, jwd_set _ hkb5] at hP1
  have hB : jBd (jset σ b (jcpF σ a sp b dq z)) := by
    refine jBd_set B (fun j' => ?_)
    have h1 := B b j'
    have h2 := B a (sp + (j' - dq))
    have e2 : jbi a (sp + (j' - dq)) = jbi b j' := by unfold jbi; rw [if_pos hka, if_pos hkb]; exact hab
    rw [e2] at h2
    unfold jcpF
    by_cases q : dq ≤ j' ∧ j' < dq + z
    · rw [if_pos q]; exact h2
    · rw [if_neg q]; exact h1
  exact h hB p l e R s m args below meth c C H1 locs1 hP1 hS1 ls hl
theorem J_mmax {idx : Nat} {x y : Int} (n : Nat) (hd : decode M.2.1 pc = .ok (.invokestatic idx, 3)) (hp : pc + 3 = n) (hw : Cond.methodLink M.1 idx Lib.Math.max.name ∈ jw) (hd2 : 2 ≤ dp) (hr : (rest.map fun v => v.category).sum ≤ 20) (h : J P dp M n L (vi (if x < y then y else x) :: rest) σ Q) (hx : inR x := by omega) (hy : inR y := by omega) : J P dp M pc L (vi y :: vi x :: rest) σ Q := by
  subst hp
  intro B p l e R s m args below meth c C H locs hP hS ls hl
  have hR1 := C.2.2.2.2.2.2.2.2.2.1
  have hR2 := C.2.2.2.2.2.2.2.2.2.2.1
  have ht := C.2.2.2.2.2.2.1
  refine va_mmax C.1 C.2.1 (C.2.2.1.trans hl.1.symm) C.2.2.2.2.2.1 (ht _ hw) (ht _ jw_maxst) (ht _ jw_mathinit) (ht _ jw_maxcode) (by omega) (by omega) (Nat.zero_le _) (Nat.zero_le _) hd ?_
  have ee : (if iI x < iI y then iI y else iI x : Int32) = iI (if x < y then y else x) := by
    by_cases q : x < y
    · rw [if_pos q, if_pos ((iI_lt hx hy).mpr q)]
    · rw [if_neg q, if_neg (fun z => q ((iI_lt hx hy).mp z))]
  rw [ee]
  exact h B p l e R s m args below meth c C H locs hP hS ls hl
theorem J_mmin {idx : Nat} {x y : Int} (n : Nat) (hd : decode M.2.1 pc = .ok (.invokestatic idx, 3)) (hp : pc + 3 = n) (hw : Cond.methodLink M.1 idx Lib.Math.min.name ∈ jw) (hd2 : 2 ≤ dp) (hr : (rest.map fun v => v.category).sum ≤ 20) (h : J P dp M n L (vi (if y < x then y else x) :: rest) σ Q) (hx : inR x := by omega) (hy : inR y := by omega) : J P dp M pc L (vi y :: vi x :: rest) σ Q := by
  subst hp
  intro B p l e R s m args below meth c C H locs hP hS ls hl
  have hR1 := C.2.2.2.2.2.2.2.2.2.1
  have hR2 := C.2.2.2.2.2.2.2.2.2.2.1
  have ht := C.2.2.2.2.2.2.1
  refine va_mmin C.1 C.2.1 (C.2.2.1.trans hl.1.symm) C.2.2.2.2.2.1 (ht _ hw) (ht _ jw_minst) (ht _ jw_mathinit) (ht _ jw_mincode) (by omega) (by omega) (Nat.zero_le _) (Nat.zero_le _) hd ?_
  have ee : (if iI y < iI x then iI y else iI x : Int32) = iI (if y < x then y else x) := by
    by_cases q : y < x
    · rw [if_pos q, if_pos ((iI_lt hy hx).mpr q)]
    · rw [if_neg q, if_neg (fun z => q ((iI_lt hy hx).mp z))]
  rw [ee]
  exact h B p l e R s m args below meth c C H locs hP hS ls hl
theorem J_iret {z : Int} {F : Int → jS → Prop} (hd : decode M.2.1 pc = .ok (.ireturn, 1)) (hr : M.2.2.2 = some .int) (h : F z σ) : J P dp M pc L [vi z] σ (qi F) := by
  intro B p l e R s m args below meth c C H locs hP hS ls hl
  exact W.iret C.1 C.2.1 (C.2.2.2.1.trans hr) (fun t ht hw => ⟨⟨_, σ, rfl, ⟨z, rfl, h⟩, B, by rw [ht]; exact hP⟩, hS.F ht⟩) (fun q hq => hS.2.2 q hq) hd C.2.2.2.2.1
theorem J_zret {z : Int} {F : Int → jS → Prop} (hd : decode M.2.1 pc = .ok (.ireturn, 1)) (hr : M.2.2.2 = some .boolean) (h : F z σ) (hz : 0 ≤ z ∧ z ≤ 1 := by first | exact b01_in _ | omega) : J P dp M pc L [vi z] σ (qi F) := by
  intro B p l e R s m args below meth c C H locs hP hS ls hl
  have hn : narrow .boolean (.int (iI z)) = .int (iI z) := by
    rcases (show z = 0 ∨ z = 1 by omega) with rfl | rfl <;> rfl
  exact W.zret C.1 C.2.1 (C.2.2.2.1.trans hr) hn (fun t ht hw => ⟨⟨_, σ, rfl, ⟨z, rfl, h⟩, B, by rw [ht]; exact hP⟩, hS.F ht⟩) (fun q hq => hS.2.2 q hq) hd C.2.2.2.2.1
theorem J_lret {z : Int} {F : Int → jS → Prop} (hd : decode M.2.1 pc = .ok (.lreturn, 1)) (hr : M.2.2.2 = some .long) (h : F z σ) : J P dp M pc L [vl z] σ (ql F) := by
  intro B p l e R s m args below meth c C H locs hP hS ls hl
  exact W.lret C.1 C.2.1 (C.2.2.2.1.trans hr) (fun t ht hw => ⟨⟨_, σ, rfl, ⟨z, rfl, h⟩, B, by rw [ht]; exact hP⟩, hS.F ht⟩) (fun q hq => hS.2.2 q hq) hd C.2.2.2.2.1
theorem J_vret {F : jS → Prop} (hd : decode M.2.1 pc = .ok (.return_, 1)) (hr : M.2.2.2 = none) (h : F σ) : J P dp M pc L [] σ (qv F) := by
  intro B p l e R s m args below meth c C H locs hP hS ls hl
  exact W.vret C.1 C.2.1 (C.2.2.2.1.trans hr) (fun t ht hw => ⟨⟨_, σ, rfl, ⟨rfl, h⟩, B, by rw [ht]; exact hP⟩, hS.F ht⟩) (fun q hq => hS.2.2 q hq) hd C.2.2.2.2.1
end JR
section JCALL
variable {p : Program} {l : Launch} {e : Env} {R : Room} {s : State} {m : MethodId} {args : Array Value} {below : List Frame} {meth : Method} {c : Code} {H H0 : Heap} {locs : List Loc} {cells slots : Nat} {Z : State → Prop}
variable {P : jP} {pc : Nat} {ls : Array Slot} {rest st0 : List Value} {a : Array Value} {A0 : Nat → Prop} {σ : jS} {Qq : Option Value → jS → Prop}
theorem w_call (hr : va_Run p l e R s m args below meth c H locs cells slots 0 0 (F0 m pc ls st0) rest (jQ P Qq a) (jA P)) (hA : ∀ q, jA P q → A0 q) (hS : va_S A0 H0 H locs)
    (kk : ∀ (r : Option Value) (σ1 : jS) (H1 : Heap) (locs1 : List Loc), Qq r σ1 → jBd σ1 → va_P (jD P) vwCl (jwd P σ1) H1 → va_S A0 H0 H1 locs1 → W p l e R s m args below meth c H1 locs1 cells slots Z (F0 m (pc + 3) ls (r.toList ++ rest))) : W p l e R s m args below meth c H locs cells slots Z (F0 m pc ls st0) := by
  intro T hT X
  obtain ⟨v, st₀, t, T', L, h0, X', hL, e1, e2, ⟨⟨r, σ1, hv, hq, hb, hp1⟩, hz, hk⟩, st⟩ := hr T hT X
  cases hv
  rw [h0] at hz hk
  obtain ⟨t2, a1, b1⟩ := kk v σ1 T'.heap (locs ++ L) hq hb (by rw [e1]; exact hp1)
    ⟨Nat.le_trans hS.1 (by rw [e1]; exact hz), fun q h1 h2 => by rw [e1, hk q (Nat.lt_of_lt_of_le h1 hS.1) (fun z => h2 (hA q z))]; exact hS.2.1 q h1 h2, fun q hq => by
      rcases List.mem_append.mp hq with h | h
      · exact hS.2.2 q h
      · exact hA _ (hL q h)⟩ T' rfl X'
  exact ⟨t2, st t2 a1, b1⟩
theorem j_good {w : Cond} (h : w ∈ jw) : w ∈ jw ∧ ((w.onTables && w.keeps) = true ∨ ∃ ty, w = .arrayClass ty) := ⟨h, good_of_word (jw_good w h)⟩
def jroom (d : Nat) : Room := { frames := d, cells := 0, slots := 0, locals := 40 * d }
theorem j_blind (P : jP) (σ : jS) (av : List Value) : FrameBlind (va_Pc av (fun U => va_P (jD P) vwCl (jwd P σ) U.heap ∧ va_K (jD P) vwCl (jty P) U)) := fun a U g mk q => by
  obtain ⟨q0, qP, qK⟩ := q
  exact ⟨q0, qP, va_K.moved (u := U) (U := U.calling g mk a) (Vm.Alike.refl U.vm) qK⟩
theorem w_runV {own : String} {nL : Nat} {cc : ByteArray} {Cn : String} {y : MethodName} {cy : ByteArray} {ny nn idx b ci d : Nat} {ry : Option FieldType} {As : List Value} (S : CallFix p m c cc nL s args jw own) (hK : va_K (jD P) vwCl (jty P) s) (hJ : jJ P) (B : jBd σ) (hP : va_P (jD P) vwCl (jwd P σ) H)
    (hw : Cond.methodLink own idx y ∈ jw) (hm : jM Cn y cy ny ry nn) (hyc : y.cls = Cn) (hcn : (vwCl[ci]?).map (fun q => q.1) = some Cn) (hk : jkd b = ci) (hC : Ct P d y cy ny ry (vr P b :: As) σ Qq) (hd : d + 1 ≤ R.frames ∧ 40 * d + 39 ≤ R.locals) (hA : As.length = nn) (hsize : ls.size = nL) (hst : st0 = As.reverse ++ vr P b :: rest) (hrest : (rest.map fun v => v.category).sum ≤ 8) (hdg : decode cc pc = .ok (.invokevirtual idx, 3)) (hf : cells ≤ R.cells ∧ slots ≤ R.slots) :
    va_Run p l e R s m args below meth c H locs cells slots 0 0 (F0 m pc ls st0) rest (jQ P Qq (Value.ref (jad P b) :: As).toArray) (jA P) := by
  obtain ⟨m1, m2, m3, m4, m5, m6⟩ := hm
  obtain ⟨q, hq, hq1⟩ : ∃ q, vwCl[ci]? = some q ∧ q.1 = Cn := by
    cases h : vwCl[ci]? with
    | none => rw [h] at hcn; cases hcn
    | some q => rw [h] at hcn; exact ⟨q, rfl, Option.some.inj hcn⟩
  have hc10 := vwCl_lt hq
  have hb5 := jkd_lt (k := b) (by omega)
  have hG : GoodIn jw (wsV own idx Cn y (.code y cy ny ry :: jw)) := by
    intro w hww
    simp only [wsV, List.cons_append, List.nil_append, List.mem_cons] at hww
    rcases hww with rfl | rfl | rfl | rfl | rfl | h
    · exact j_good hw
    · exact j_good m1
    · exact j_good m2
    · exact j_good (hyc ▸ m3)
    · exact j_good m4
    · exact j_good h
  refine va_runV (rm := jroom d) (mc := 0) (ms := 0) (n := nn) (As := As) (rest := rest) S (hC B hJ l (jroom d) rfl rfl (Nat.le_refl _) (Nat.le_refl _)) (cwV nn S.2.2.2.2 hG rfl rfl rfl ⟨hyc, m5⟩ ⟨hd.1, ?_⟩) ⟨j_blind P σ _, ?_, ?_⟩ rfl hA hsize hst (lv_room hrest) hdg hf
  · show 8 + (ny + 11) + 40 * d ≤ R.locals
    omega
  · have := va_recv (tys := jty P) hK hP hq (a := jad P b) (q0 := b) (fs := jfv P (σ b) 0 (jrf b)) (by rw [jwd_at hb5, jce_obj (by omega), hk])
    rw [hq1] at this
    exact this
  · intro U hU hW
    exact ⟨rfl, by rw [hU]; exact hP, va_K.moved hW.alike hK⟩
theorem w_runS {own : String} {nL : Nat} {cc : ByteArray} {y : MethodName} {cy : ByteArray} {ny nn idx d : Nat} {ry : Option FieldType} {As : List Value} (S : CallFix p m c cc nL s args jw own) (hK : va_K (jD P) vwCl (jty P) s) (hJ : jJ P) (B : jBd σ) (hP : va_P (jD P) vwCl (jwd P σ) H)
    (hw : Cond.methodLink own idx y ∈ jw) (hm : jMs y cy ny ry nn) (hC : Ct P d y cy ny ry As σ Qq) (hd : d + 1 ≤ R.frames ∧ 40 * d + 39 ≤ R.locals) (hA : As.length = nn) (hsize : ls.size = nL) (hst : st0 = As.reverse ++ rest) (hrest : (rest.map fun v => v.category).sum ≤ 8) (hdg : decode cc pc = .ok (.invokestatic idx, 3)) (hf : cells ≤ R.cells ∧ slots ≤ R.slots) :
    va_Run p l e R s m args below meth c H locs cells slots 0 0 (F0 m pc ls st0) rest (jQ P Qq As.toArray) (jA P) := by
  obtain ⟨m1, m3, m4, m5, m6⟩ := hm
  have hts := S.2.2.2.2
  have hG : GoodIn jw (.code y cy ny ry :: jw) := by
    intro w hww
    rcases List.mem_cons.mp hww with rfl | h
    · exact j_good m4
    · exact j_good h
  refine va_runS (rm := jroom d) (mc := 0) (ms := 0) (n := nn) (As := As) (rest := rest) S (hC B hJ l (jroom d) rfl rfl (Nat.le_refl _) (Nat.le_refl _)) ⟨callB_of nn hts hG rfl rfl rfl (hts _ m3) (hts _ hw) m5 ⟨hd.1, ?_⟩, hts _ m1⟩ ⟨j_blind P σ _, ?_⟩ rfl hA hsize hst (lv_room hrest) hdg hf
  · show 8 + (ny + 11) + 40 * d ≤ R.locals
    omega
  · intro U hU hW
    exact ⟨rfl, by rw [hU]; exact hP, va_K.moved hW.alike hK⟩
end JCALL
section JR2
variable {P : jP} {dp : Nat} {M : jMt} {pc : Nat} {L : List (Option Value)} {rest st0 : List Value} {σ : jS} {Q : Option Value → jS → Prop}
theorem J_callVi {Cn : String} {y : MethodName} {cy : ByteArray} {ny nn idx b ci d : Nat} {ry : Option FieldType} {As : List Value} {F : Int → jS → Prop} (n : Nat) (hdg : decode M.2.1 pc = .ok (.invokevirtual idx, 3)) (hp : pc + 3 = n) (hw : Cond.methodLink M.1 idx y ∈ jw) (hm : jM Cn y cy ny ry nn) (hyc : y.cls = Cn) (hcn : (vwCl[ci]?).map (fun q => q.1) = some Cn) (hk : jkd b = ci) (hC : Ct P d y cy ny ry (vr P b :: As) σ (qi F)) (hd : d + 1 ≤ dp) (hA : As.length = nn) (hst : st0 = As.reverse ++ vr P b :: rest) (hrest : (rest.map fun v => v.category).sum ≤ 8) (h : ∀ (z : Int) (σ1 : jS), F z σ1 → J P dp M n L (vi z :: rest) σ1 Q) : J P dp M pc L st0 σ Q := by
  subst hp
  intro B p l e R s m args below meth c C H locs hP hS ls hl
  have hR1 := C.2.2.2.2.2.2.2.2.2.1
  have hR2 := C.2.2.2.2.2.2.2.2.2.2.1
  refine w_call (w_runV ⟨C.1, C.2.1, C.2.2.1, C.2.2.2.2.2.1, C.2.2.2.2.2.2.1⟩ C.2.2.2.2.2.2.2.1 C.2.2.2.2.2.2.2.2.1 B hP hw hm hyc hcn hk hC ⟨by omega, by omega⟩ hA hl.1 hst hrest hdg ⟨Nat.zero_le _, Nat.zero_le _⟩) (fun _ q => q) hS (fun r σ1 H1 locs1 hQ hB1 hP1 hS1 => ?_)
  obtain ⟨z, rfl, hF⟩ := hQ
  exact h z σ1 hF hB1 p l e R s m args below meth c C H1 locs1 hP1 hS1 ls hl
theorem J_callSi {y : MethodName} {cy : ByteArray} {ny nn idx d : Nat} {ry : Option FieldType} {As : List Value} {F : Int → jS → Prop} (n : Nat) (hdg : decode M.2.1 pc = .ok (.invokestatic idx, 3)) (hp : pc + 3 = n) (hw : Cond.methodLink M.1 idx y ∈ jw) (hm : jMs y cy ny ry nn) (hC : Ct P d y cy ny ry As σ (qi F)) (hd : d + 1 ≤ dp) (hA : As.length = nn) (hst : st0 = As.reverse ++ rest) (hrest : (rest.map fun v => v.category).sum ≤ 8) (h : ∀ (z : Int) (σ1 : jS), F z σ1 → J P dp M n L (vi z :: rest) σ1 Q) : J P dp M pc L st0 σ Q := by
  subst hp
  intro B p l e R s m args below meth c C H locs hP hS ls hl
  have hR1 := C.2.2.2.2.2.2.2.2.2.1
  have hR2 := C.2.2.2.2.2.2.2.2.2.2.1
  refine w_call (w_runS ⟨C.1, C.2.1, C.2.2.1, C.2.2.2.2.2.1, C.2.2.2.2.2.2.1⟩ C.2.2.2.2.2.2.2.1 C.2.2.2.2.2.2.2.2.1 B hP hw hm hC ⟨by omega, by omega⟩ hA hl.1 hst hrest hdg ⟨Nat.zero_le _, Nat.zero_le _⟩) (fun _ q => q) hS (fun r σ1 H1 locs1 hQ hB1 hP1 hS1 => ?_)
  obtain ⟨z, rfl, hF⟩ := hQ
  exact h z σ1 hF hB1 p l e R s m args below meth c C H1 locs1 hP1 hS1 ls hl
theorem J_callVl {Cn : String} {y : MethodName} {cy : ByteArray} {ny nn idx b ci d : Nat} {ry : Option FieldType} {As : List Value} {F : Int → jS → Prop} (n : Nat) (hdg : decode M.2.1 pc = .ok (.invokevirtual idx, 3)) (hp : pc + 3 = n) (hw : Cond.methodLink M.1 idx y ∈ jw) (hm : jM Cn y cy ny ry nn) (hyc : y.cls = Cn) (hcn : (vwCl[ci]?).map (fun q => q.1) = some Cn) (hk : jkd b = ci) (hC : Ct P d y cy ny ry (vr P b :: As) σ (ql F)) (hd : d + 1 ≤ dp) (hA : As.length = nn) (hst : st0 = As.reverse ++ vr P b :: rest) (hrest : (rest.map fun v => v.category).sum ≤ 8) (h : ∀ (z : Int) (σ1 : jS), F z σ1 → J P dp M n L (vl z :: rest) σ1 Q) : J P dp M pc L st0 σ Q := by
  subst hp
  intro B p l e R s m args below meth c C H locs hP hS ls hl
  have hR1 := C.2.2.2.2.2.2.2.2.2.1
  have hR2 := C.2.2.2.2.2.2.2.2.2.2.1
  refine w_call (w_runV ⟨C.1, C.2.1, C.2.2.1, C.2.2.2.2.2.1, C.2.2.2.2.2.2.1⟩ C.2.2.2.2.2.2.2.1 C.2.2.2.2.2.2.2.2.1 B hP hw hm hyc hcn hk hC ⟨by omega, by omega⟩ hA hl.1 hst hrest hdg ⟨Nat.zero_le _, Nat.zero_le _⟩) (fun _ q => q) hS (fun r σ1 H1 locs1 hQ hB1 hP1 hS1 => ?_)
  obtain ⟨z, rfl, hF⟩ := hQ
  exact h z σ1 hF hB1 p l e R s m args below meth c C H1 locs1 hP1 hS1 ls hl
theorem J_callSl {y : MethodName} {cy : ByteArray} {ny nn idx d : Nat} {ry : Option FieldType} {As : List Value} {F : Int → jS → Prop} (n : Nat) (hdg : decode M.2.1 pc = .ok (.invokestatic idx, 3)) (hp : pc + 3 = n) (hw : Cond.methodLink M.1 idx y ∈ jw) (hm : jMs y cy ny ry nn) (hC : Ct P d y cy ny ry As σ (ql F)) (hd : d + 1 ≤ dp) (hA : As.length = nn) (hst : st0 = As.reverse ++ rest) (hrest : (rest.map fun v => v.category).sum ≤ 8) (h : ∀ (z : Int) (σ1 : jS), F z σ1 → J P dp M n L (vl z :: rest) σ1 Q) : J P dp M pc L st0 σ Q := by
  subst hp
  intro B p l e R s m args below meth c C H locs hP hS ls hl
  have hR1 := C.2.2.2.2.2.2.2.2.2.1
  have hR2 := C.2.2.2.2.2.2.2.2.2.2.1
  refine w_call (w_runS ⟨C.1, C.2.1, C.2.2.1, C.2.2.2.2.2.1, C.2.2.2.2.2.2.1⟩ C.2.2.2.2.2.2.2.1 C.2.2.2.2.2.2.2.2.1 B hP hw hm hC ⟨by omega, by omega⟩ hA hl.1 hst hrest hdg ⟨Nat.zero_le _, Nat.zero_le _⟩) (fun _ q => q) hS (fun r σ1 H1 locs1 hQ hB1 hP1 hS1 => ?_)
  obtain ⟨z, rfl, hF⟩ := hQ
  exact h z σ1 hF hB1 p l e R s m args below meth c C H1 locs1 hP1 hS1 ls hl
theorem J_callVv {Cn : String} {y : MethodName} {cy : ByteArray} {ny nn idx b ci d : Nat} {ry : Option FieldType} {As : List Value} {F : jS → Prop} (n : Nat) (hdg : decode M.2.1 pc = .ok (.invokevirtual idx, 3)) (hp : pc + 3 = n) (hw : Cond.methodLink M.1 idx y ∈ jw) (hm : jM Cn y cy ny ry nn) (hyc : y.cls = Cn) (hcn : (vwCl[ci]?).map (fun q => q.1) = some Cn) (hk : jkd b = ci) (hC : Ct P d y cy ny ry (vr P b :: As) σ (qv F)) (hd : d + 1 ≤ dp) (hA : As.length = nn) (hst : st0 = As.reverse ++ vr P b :: rest) (hrest : (rest.map fun v => v.category).sum ≤ 8) (h : ∀ (σ1 : jS), F σ1 → J P dp M n L rest σ1 Q) : J P dp M pc L st0 σ Q := by
  subst hp
  intro B p l e R s m args below meth c C H locs hP hS ls hl
  have hR1 := C.2.2.2.2.2.2.2.2.2.1
  have hR2 := C.2.2.2.2.2.2.2.2.2.2.1
  refine w_call (w_runV ⟨C.1, C.2.1, C.2.2.1, C.2.2.2.2.2.1, C.2.2.2.2.2.2.1⟩ C.2.2.2.2.2.2.2.1 C.2.2.2.2.2.2.2.2.1 B hP hw hm hyc hcn hk hC ⟨by omega, by omega⟩ hA hl.1 hst hrest hdg ⟨Nat.zero_le _, Nat.zero_le _⟩) (fun _ q => q) hS (fun r σ1 H1 locs1 hQ hB1 hP1 hS1 => ?_)
  obtain ⟨rfl, hF⟩ := hQ
  exact h σ1 hF hB1 p l e R s m args below meth c C H1 locs1 hP1 hS1 ls hl
theorem J_callSv {y : MethodName} {cy : ByteArray} {ny nn idx d : Nat} {ry : Option FieldType} {As : List Value} {F : jS → Prop} (n : Nat) (hdg : decode M.2.1 pc = .ok (.invokestatic idx, 3)) (hp : pc + 3 = n) (hw : Cond.methodLink M.1 idx y ∈ jw) (hm : jMs y cy ny ry nn) (hC : Ct P d y cy ny ry As σ (qv F)) (hd : d + 1 ≤ dp) (hA : As.length = nn) (hst : st0 = As.reverse ++ rest) (hrest : (rest.map fun v => v.category).sum ≤ 8) (h : ∀ (σ1 : jS), F σ1 → J P dp M n L rest σ1 Q) : J P dp M pc L st0 σ Q := by
  subst hp
  intro B p l e R s m args below meth c C H locs hP hS ls hl
  have hR1 := C.2.2.2.2.2.2.2.2.2.1
  have hR2 := C.2.2.2.2.2.2.2.2.2.2.1
  refine w_call (w_runS ⟨C.1, C.2.1, C.2.2.1, C.2.2.2.2.2.1, C.2.2.2.2.2.2.1⟩ C.2.2.2.2.2.2.2.1 C.2.2.2.2.2.2.2.2.1 B hP hw hm hC ⟨by omega, by omega⟩ hA hl.1 hst hrest hdg ⟨Nat.zero_le _, Nat.zero_le _⟩) (fun _ q => q) hS (fun r σ1 H1 locs1 hQ hB1 hP1 hS1 => ?_)
  obtain ⟨rfl, hF⟩ := hQ
  exact h σ1 hF hB1 p l e R s m args below meth c C H1 locs1 hP1 hS1 ls hl
end JR2
