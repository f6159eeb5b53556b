/-! THE CLAIM OUT OF ONE WALK OF THE LAW'S BODY. Your part is whole_start (and what it stands on); all else here is the same for every law, but numbers. -/
def R_law : String := "LoafGatesLaw"
def lw_P (b : Addr) (xs : List Int32) (args : Array Value) (s : State) : Prop := args = #[.ref b] ∧ s.IntsAt b xs ∧ xs.length ≤ 3072 ∧ (Jvm.Cond.and given_1 narrow_1).before args s = true
def lw_Q (_ : Array Value) (s : State) (o : Outcome) (t : State) : Prop := o = .returned (some (.int 1)) ∧ Framed s o t [] 600000 7302250
def lw_Z (below : List Frame) (a : Array Value) (s : State) : State → Prop := fun t => ∃ o, t.status = .running ∧ Ended t below o ∧ lw_Q a s o t
/-- the law's own end, with 1 on the stack, nothing written that was there before, its room as the claim has it -/
theorem lw_ret {p : Program} {l : Launch} {e : Env} {s : State} {m : MethodId} {below : List Frame} {meth : Method} {c : Code} {b : Nat} (hx : p.tables.exec = Jvm.exec) (hb : c.code = code) (hr : meth.sig.returnType = ret) (hlocks : meth.locks = false) {pc : Nat} {H : Heap} {ls : Array Slot} (hdg : decode code pc = .ok (.ireturn, 1)) : W p l e room_1 s m #[Value.ref b] below meth c H [] 600000 7302250 (lw_Z below #[Value.ref b] s) (F0 m pc ls [.int 1]) := by
  intro T hT X
  obtain ⟨fs, hret, hrun, hended, hW, hframe⟩ := X.leave (v := some (.int 1)) (hlocks := hlocks) (fun h => by rw [hr] at h; cases h)
  have hmeth' : T.vm.method? m = some meth := X.method'
  refine ⟨T.setFrames fs, ?_, .returned (some (.int 1)), hrun, hended, rfl, ⟨_, rfl⟩, hW, hframe⟩
  jvm_step X.here [X.here.top, hx, hb, hdg, hmeth', hr, ret, narrow_b1]
  (try refine ⟨rfl, ?_⟩); (try refine ⟨rfl, ?_⟩)
  first | (intro acts; rw [hret _ acts rfl rfl rfl]) | rw [hret _ _ rfl rfl rfl]
  exact Steps.refl _
/-- what holds at the law's entry: the machine, the code, the tables' words (any of lw_tbl by 'hts w (by decide +kernel)'), the script of L ints xs at the cell b, what the Statement gives of the start (any of its parts by flat_of_before) -/
def lw_At (p : Program) (s : State) (m : MethodId) (meth : Method) (c : Code) (b L : Nat) (xs : Nat → Int32) : Prop :=
  p.tables.exec = Jvm.exec ∧ c.code = code ∧ meth.sig.returnType = ret ∧ c.maxLocals = 4 ∧ s.vm.findClass R_law = some m.cls ∧ (∀ w ∈ lw_tbl, w.before #[Value.ref b] s = true) ∧ va_X b L xs s s.heap ∧ b < s.heap.size ∧ meth.locks = false ∧ (Jvm.Cond.and given_1 narrow_1).before #[Value.ref b] s = true
/-! ===== the law's own judgement: its frame at pc, its counter i, over the world σ ===== -/
def lC (P : jP) (p : Program) (s : State) (m : MethodId) (meth : Method) (c : Code) (b L : Nat) (xs : Nat → Int32) : Prop := lw_At p s m meth c b L xs ∧ va_K (jD P) vwCl (jty P) s ∧ jJ P ∧ (∀ k, k < 65 → s.heap.size ≤ jad P k) ∧ L ≤ 3072
abbrev lvL (P : jP) (b : Nat) (i : Int) : List (Nat × Value) := [(0, .ref b), (1, vr P 0), (2, vr P 36), (3, vi i)]
def JL (P : jP) (p : Program) (l : Launch) (e : Env) (s : State) (m : MethodId) (below : List Frame) (meth : Method) (c : Code) (b : Nat) (i : Int) (pc : Nat) (st : List Value) (σ : jS) : Prop :=
  jBd σ → ∀ (H : Heap) (locs : List Loc), va_P (jD P) vwCl (jwd P σ) H → va_S (fun q : Nat => s.heap.size ≤ q) s.heap H locs → ∀ ls : Array Slot, lv_has ls 4 (lvL P b i) → W p l e room_1 s m #[Value.ref b] below meth c H locs 600000 7302250 (lw_Z below #[Value.ref b] s) (F0 m pc ls st)
def av (xs : Nat → Int32) (i : Int) (k : Int) : Int := (xs (i + k).toNat).toInt
theorem inR_toInt (x : Int32) : inR x.toInt := ⟨by have := Int32.le_toInt x; omega, by have := Int32.toInt_lt x; omega⟩
theorem av_in (xs : Nat → Int32) (i k : Int) : inR (av xs i k) := inR_toInt _
section LR
variable {p : Program} {l : Launch} {e : Env} {s : State} {m : MethodId} {below : List Frame} {meth : Method} {c : Code} {b L : Nat} {xs : Nat → Int32} {P : jP} {i : Int} {pc : Nat} {st : List Value} {σ : jS}
theorem L_bd (h : jBd σ → JL P p l e s m below meth c b i pc st σ) : JL P p l e s m below meth c b i pc st σ := fun B => h B B
theorem L_ald {k : Fin 4} {j x : Nat} (n : Nat) (hC : lC P p s m meth c b L xs) (hd : decode cL_law pc = .ok (.aload_n k, 1)) (hp : pc + 1 = n) (hk : (k : Nat) = j) (hg : (j, vr P x) ∈ lvL P b i) (h : JL P p l e s m below meth c b i n (vr P x :: st) σ) : JL P p l e s m below meth c b i pc st σ := by
  subst hp
  intro B H locs hP hS ls hl
  obtain ⟨⟨hx, hb, hr, hml, hown, hts, hX, hbl, hlk, hgv⟩, hK, hJ, hge, hL⟩ := hC
  refine lv_aload_n hx hb hd hk (hl.2.2 _ hg) ?_
  exact h B H locs hP hS ls hl
theorem L_arg {k : Int} (n : Nat) (hC : lC P p s m meth c b L xs) (h0 : 0 ≤ i) (h6 : i + 6 ≤ (L : Int)) (hk : 0 ≤ k ∧ k ≤ 5) (hd0 : decode cL_law pc = .ok (.aload_n 0, 1)) (hd1 : decode cL_law (pc + 1) = .ok (.iload_n 3, 1)) (hd2 : decode cL_law (pc + 2) = .ok (.iconst k, 1)) (hd3 : decode cL_law (pc + 3) = .ok (.iadd, 1)) (hd4 : decode cL_law (pc + 4) = .ok (.iaload, 1)) (hp : pc + 5 = n) (h : JL P p l e s m below meth c b i n (vi (av xs i k) :: st) σ) : JL P p l e s m below meth c b i pc st σ := by
  subst hp
  intro B H locs hP hS ls hl
  obtain ⟨⟨hx, hb, hr, hml, hown, hts, hX, hbl, hlk, hgv⟩, hK, hJ, hge, hL⟩ := hC
  have hbA : ¬ (fun q : Nat => s.heap.size ≤ q) b := Nat.not_le.mpr hbl
  refine lv_aload_n hx hb hd0 rfl (hl.2.2 _ (List.mem_of_getElem? (i := 0) rfl)) ?_
  refine lv_iload_n hx hb hd1 rfl (hl.2.2 _ (List.mem_of_getElem? (i := 3) rfl)) ?_
  refine lv_iconst (v := iI k) hx hb hd2 rfl ?_
  refine lv_iadd hx hb hd3 ?_
  rw [iI_add]
  refine va_sld hx hb hX hbl hbA hS (i := iI (i + k)) (vp_in_iff.mpr (by rw [iI_toInt (by omega)]; omega)) hd4 ?_
  rw [iI_cl (by omega), ← iI_of (xs (i + k).toNat)]
  exact h B H locs hP hS ls hl
theorem L_calli {Cn : String} {y : MethodName} {cy : ByteArray} {ny nn idx bb ci d : Nat} {ry : Option FieldType} {As rest : List Value} {F : Int → jS → Prop} (n : Nat) (hC : lC P p s m meth c b L xs) (hdg : decode cL_law pc = .ok (.invokevirtual idx, 3)) (hp : pc + 3 = n) (hw : Cond.methodLink RL idx y ∈ jw) (hm : jM Cn y cy ny ry nn) (hyc : y.cls = Cn) (hcn : (vwCl[ci]?).map (fun q => q.1) = some Cn) (hk : jkd bb = ci) (hCt : Ct P d y cy ny ry (vr P bb :: As) σ (qi F)) (hd : d ≤ 100) (hA : As.length = nn) (hst : st = As.reverse ++ vr P bb :: rest) (hrest : (rest.map fun v => v.category).sum ≤ 8) (h : ∀ (z : Int) (σ1 : jS), F z σ1 → jBd σ1 → JL P p l e s m below meth c b i n (vi z :: rest) σ1) : JL P p l e s m below meth c b i pc st σ := by
  subst hp
  intro B H locs hP hS ls hl
  obtain ⟨⟨hx, hb, hr, hml, hown, hts, hX, hbl, hlk, hgv⟩, hK, hJ, hge, hL⟩ := hC
  refine w_call (w_runV (own := RL) ⟨hx, hb, hml, hown, fun w hw => hts w (jw_in w hw)⟩ hK hJ B hP hw hm hyc hcn hk hCt ⟨by show d + 1 ≤ 2048; omega, by show 40 * d + 39 ≤ 84000; omega⟩ hA hl.1 hst hrest hdg ⟨Nat.le_refl _, Nat.le_refl _⟩) (fun q hq => ?_) hS (fun r σ1 H1 locs1 hQ hB1 hP1 hS1 => ?_)
  · obtain ⟨k, hk, rfl⟩ := hq
    exact hge k hk
  · obtain ⟨z, rfl, hF⟩ := hQ
    exact h z σ1 hF hB1 hB1 H1 locs1 hP1 hS1 ls hl
theorem L_calll {Cn : String} {y : MethodName} {cy : ByteArray} {ny nn idx bb ci d : Nat} {ry : Option FieldType} {As rest : List Value} {F : Int → jS → Prop} (n : Nat) (hC : lC P p s m meth c b L xs) (hdg : decode cL_law pc = .ok (.invokevirtual idx, 3)) (hp : pc + 3 = n) (hw : Cond.methodLink RL idx y ∈ jw) (hm : jM Cn y cy ny ry nn) (hyc : y.cls = Cn) (hcn : (vwCl[ci]?).map (fun q => q.1) = some Cn) (hk : jkd bb = ci) (hCt : Ct P d y cy ny ry (vr P bb :: As) σ (ql F)) (hd : d ≤ 100) (hA : As.length = nn) (hst : st = As.reverse ++ vr P bb :: rest) (hrest : (rest.map fun v => v.category).sum ≤ 8) (h : ∀ (z : Int) (σ1 : jS), F z σ1 → jBd σ1 → JL P p l e s m below meth c b i n (vl z :: rest) σ1) : JL P p l e s m below meth c b i pc st σ := by
  subst hp
  intro B H locs hP hS ls hl
  obtain ⟨⟨hx, hb, hr, hml, hown, hts, hX, hbl, hlk, hgv⟩, hK, hJ, hge, hL⟩ := hC
  refine w_call (w_runV (own := RL) ⟨hx, hb, hml, hown, fun w hw => hts w (jw_in w hw)⟩ hK hJ B hP hw hm hyc hcn hk hCt ⟨by show d + 1 ≤ 2048; omega, by show 40 * d + 39 ≤ 84000; omega⟩ hA hl.1 hst hrest hdg ⟨Nat.le_refl _, Nat.le_refl _⟩) (fun q hq => ?_) hS (fun r σ1 H1 locs1 hQ hB1 hP1 hS1 => ?_)
  · obtain ⟨k, hk, rfl⟩ := hq
    exact hge k hk
  · obtain ⟨z, rfl, hF⟩ := hQ
    exact h z σ1 hF hB1 hB1 H1 locs1 hP1 hS1 ls hl
theorem L_eqi {z1 z2 off : Int} (hC : lC P p s m meth c b L xs) (hz : z1 = z2) (hd : decode cL_law pc = .ok (.if_icmp .eq off, 3)) (ht : (pc : Int) + off = ((1279 : Nat) : Int)) (h : JL P p l e s m below meth c b i 1279 [] σ) : JL P p l e s m below meth c b i pc [vi z2, vi z1] σ := by
  intro B H locs hP hS ls hl
  obtain ⟨⟨hx, hb, hr, hml, hown, hts, hX, hbl, hlk, hgv⟩, hK, hJ, hge, hL⟩ := hC
  subst hz
  refine lv_icmp_eq hx hb hd ht (fun q => ?_) (fun q => ?_)
  · exact h B H locs hP hS ls hl
  · exact absurd rfl q
theorem lg_cmp_self (x : Int64) : lg_cmp x x = 0 := by
  unfold lg_cmp
  rw [if_neg (fun q : x < x => by rw [Int64.lt_iff_toInt_lt] at q; omega), if_pos rfl]
theorem L_eql {z1 z2 off : Int} (hC : lC P p s m meth c b L xs) (hz : z1 = z2) (hd : decode cL_law pc = .ok (.lcmp, 1)) (hd2 : decode cL_law (pc + 1) = .ok (.ifCond .eq off, 3)) (ht : ((pc + 1 : Nat) : Int) + off = ((1279 : Nat) : Int)) (h : JL P p l e s m below meth c b i 1279 [] σ) : JL P p l e s m below meth c b i pc [vl z2, vl z1] σ := by
  intro B H locs hP hS ls hl
  obtain ⟨⟨hx, hb, hr, hml, hown, hts, hX, hbl, hlk, hgv⟩, hK, hJ, hge, hL⟩ := hC
  subst hz
  refine W.lcmp hx hb hd ?_
  rw [lg_cmp_self]
  refine lv_if_eq hx hb hd2 ht (fun q => ?_) (fun q => ?_)
  · exact h B H locs hP hS ls hl
  · exact absurd rfl q
theorem L_next (hC : lC P p s m meth c b L xs) (h : JL P p l e s m below meth c b (i + 6) 18 [] σ) : JL P p l e s m below meth c b i 1279 [] σ := by
  intro B H locs hP hS ls hl
  obtain ⟨⟨hx, hb, hr, hml, hown, hts, hX, hbl, hlk, hgv⟩, hK, hJ, hge, hL⟩ := hC
  refine lv_iinc (v := iI (i + 6)) (k := 3) (lv' := [(3, vi (i + 6)), (0, .ref b), (1, vr P 0), (2, vr P 36)]) hx hb dL_law_1279 hl rfl (iI_add i 6) (by decide) rfl (fun ls2 hl2 => ?_)
  refine lv_goto (tgt := 18) hx hb dL_law_1282 rfl ?_
  exact h B H locs hP hS ls2 (lv_sub hl2 [1, 2, 3, 0] rfl)
theorem L_head (hC : lC P p s m meth c b L xs) (h0 : 0 ≤ i) (h1 : i ≤ 3072) (h : i + 6 ≤ (L : Int) → JL P p l e s m below meth c b i 27 [] σ) : JL P p l e s m below meth c b i 18 [] σ := by
  intro B H locs hP hS ls hl
  obtain ⟨⟨hx, hb, hr, hml, hown, hts, hX, hbl, hlk, hgv⟩, hK, hJ, hge, hL⟩ := hC
  have hbA : ¬ (fun q : Nat => s.heap.size ≤ q) b := Nat.not_le.mpr hbl
  refine lv_iload_n hx hb dL_law_18 rfl (hl.2.2 _ (List.mem_of_getElem? (i := 3) rfl)) ?_
  refine lv_aload_n hx hb dL_law_19 rfl (hl.2.2 _ (List.mem_of_getElem? (i := 0) rfl)) ?_
  refine va_slen hx hb hX hbl hbA hS dL_law_20 ?_
  refine lv_bipush (v := iI 6) hx hb dL_law_21 (iI_b8 (by decide)) ?_
  refine lv_isub hx hb dL_law_23 ?_
  have eL : Int32.ofNat L = iI (L : Int) := (iI_ofNat L).symm
  rw [eL, iI_sub]
  refine lv_icmp_gt (tgt := 1285) hx hb dL_law_24 rfl (fun q => ?_) (fun q => ?_)
  · refine lv_iconst (v := 1) hx hb dL_law_1285 rfl ?_
    refine va_forget (fun q hq => hS.2.2 q hq) ?_
    exact lw_ret hx hb hr hlk dL_law_1286
  · refine h ?_ B H locs hP hS ls hl
    have q2 : ¬ ((L : Int) - 6 < i) := fun z => q ((iI_lt (by omega) (by omega)).mpr z)
    omega
def lwO : Array Int := #[163, 216, 249, 282, 315, 348, 381, 404, 427, 490, 523, 556, 589, 602, 625, 648, 671, 694, 707, 730, 753, 786, 809, 832, 855, 868, 902, 945, 968, 1011, 1055, 1118, 1141, 1164, 1197, 1210, 1223]
def lwT (n : Nat) : Nat := ([196, 249, 282, 315, 348, 381, 414, 437, 460, 523, 556, 589, 622, 635, 658, 681, 704, 727, 740, 763, 786, 819, 842, 865, 888, 901, 935, 978, 1001, 1044, 1088, 1151, 1174, 1197, 1230, 1243, 1256] : List Nat).getD n 0
theorem lwT_ok : ∀ n, n < 37 → ∃ off : Int, lwO[n]? = some off ∧ (33 : Int) + off = ((lwT n : Nat) : Int) := by
  have key : ∀ n, n < 37 → lwO[n]? = some (((lwT n : Nat) : Int) - 33) := by decide +kernel
  intro n hn
  exact ⟨_, key n hn, by omega⟩
theorem and63 (x : Int32) : 0 ≤ (x &&& 63).toInt ∧ (x &&& 63).toInt ≤ 63 := by
  have h1 : (x &&& 63).toBitVec = x.toBitVec &&& 63#32 := Int32.toBitVec_and x 63
  have h2 : (x &&& 63).toBitVec.toNat ≤ 63 := by
    rw [h1, BitVec.toNat_and]
    exact Nat.and_le_right
  have h3 : (x &&& 63).toInt = ((x &&& 63).toBitVec.toNat : Int) := by
    show (x &&& 63).toBitVec.toInt = _
    rw [BitVec.toInt_eq_toNat_of_lt (by omega)]
  omega
theorem L_switch (hC : lC P p s m meth c b L xs) (h0 : 0 ≤ i) (h6 : i + 6 ≤ (L : Int)) (hn : JL P p l e s m below meth c b i 1279 [] σ) (h : ∀ n, n < 37 → JL P p l e s m below meth c b i (lwT n) [] σ) : JL P p l e s m below meth c b i 27 [] σ := by
  intro B H locs hP hS ls hl
  obtain ⟨⟨hx, hb, hr, hml, hown, hts, hX, hbl, hlk, hgv⟩, hK, hJ, hge, hL⟩ := hC
  have hbA : ¬ (fun q : Nat => s.heap.size ≤ q) b := Nat.not_le.mpr hbl
  refine lv_aload_n hx hb dL_law_27 rfl (hl.2.2 _ (List.mem_of_getElem? (i := 0) rfl)) ?_
  refine lv_iload_n hx hb dL_law_28 rfl (hl.2.2 _ (List.mem_of_getElem? (i := 3) rfl)) ?_
  refine va_sld hx hb hX hbl hbA hS (i := iI i) (vp_in_iff.mpr (by rw [iI_toInt (by omega)]; omega)) dL_law_29 ?_
  refine lv_bipush (v := 63) hx hb dL_law_30 rfl ?_
  refine lv_iand hx hb dL_law_32 ?_
  generalize xs (iI i).toNatClampNeg = x
  have hx63 := and63 x
  by_cases hc : (x &&& 63).toInt < 37
  · obtain ⟨off, o1, o2⟩ := lwT_ok (x &&& 63).toInt.toNat (by omega)
    refine lv_tableIn (tgt := lwT (x &&& 63).toInt.toNat) (off := off) hx hb dL_law_33 (by omega) (by omega) (by rw [Int.sub_zero]; exact o1) o2 ?_
    exact h _ (by omega) B H locs hP hS ls hl
  · refine lv_tableOut (tgt := 1279) hx hb dL_law_33 (Or.inr (by omega)) rfl ?_
    exact hn B H locs hP hS ls hl
end LR
