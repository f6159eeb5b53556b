theorem σ0_bd : jBd σ0 := by
  intro k j
  have hz := jBd0 k j
  unfold σ0
  by_cases e1 : k = 20
  · subst e1
    rw [if_pos rfl]
    by_cases e2 : j = 1
    · subst e2; decide +kernel
    · rw [if_neg e2]; exact hz
  · rw [if_neg e1]
    by_cases e3 : k = 22
    · subst e3
      rw [if_pos rfl]
      by_cases e2 : j = 1
      · subst e2; decide +kernel
      · rw [if_neg e2]
        by_cases e4 : j = 2
        · subst e4; decide +kernel
        · rw [if_neg e4]; exact hz
    · rw [if_neg e3]
      by_cases e5 : k = 28 ∨ k = 30 ∨ k = 32 ∨ k = 34
      · rw [if_pos e5]
        by_cases e2 : j = 1
        · subst e2
          rcases e5 with rfl | rfl | rfl | rfl <;> decide +kernel
        · rw [if_neg e2]; exact hz
      · rw [if_neg e5]
        by_cases e6 : k = 61
        · subst e6
          rw [if_pos rfl]
          have e7 : jbi 61 j = (-1, 60) := by
            unfold jbi
            rw [if_pos (by decide +kernel)]
            decide +kernel
          rw [e7]
          decide
        · rw [if_neg e6]; exact hz
theorem σ0_rel : Rel σ0 := by
  have z1 : ∀ j : Int, σ0 1 j = 0 := fun j => rfl
  refine ⟨⟨⟨fun i a b => ?_, fun j a b => ?_, fun r a b j c d => ?_⟩, fun j a b => ?_⟩, fun j a b => ?_, ⟨rfl, fun j a b => ?_⟩, rfl, rfl, fun k a b => ?_⟩
  · show σ0 1 i = if (0 : Int) ≤ i ∧ i ≤ 3 then σ0 36 (i + 1) else 0
    rw [if_pos ⟨a, b⟩]
    rfl
  · have : j < 0 := b
    omega
  · have : j < 0 := d
    omega
  · have : j < 0 := b
    omega
  · have : j < 0 := b
    omega
  · have : j < 0 := b
    omega
  · refine Or.inl ⟨rfl, ?_⟩
    rcases (show k = 0 ∨ k = 1 ∨ k = 2 ∨ k = 3 by omega) with rfl | rfl | rfl | rfl <;> rfl
section LN
variable {p : Program} {l : Launch} {e : Env} {R : Room} {s : State} {m : MethodId} {args : Array Value} {below : List Frame} {meth : Method} {c : Code} {H H0 : Heap} {locs : List Loc} {cells slots : Nat} {Z : State → Prop}
variable {D : va_G} {cI cS : ClassId} {pc : Nat} {ls : Array Slot} {A0 : Nat → Prop} {ws : va_W}
theorem w_new {own : String} {cc : ByteArray} {nK i1 i2 ci N nL d mc2 ms2 : Nat} {fs : List Value} {y : MethodName} {cy : ByteArray} {Qs : Nat → va_W → Prop} (hx : p.tables.exec = Jvm.exec) (hb : c.code = cc) (hml : c.maxLocals = nK) (hown : s.vm.findClass own = some m.cls) (ht : ∀ w ∈ jw, w.before args s = true) (hK : va_K D vwCl (nT cI cS) s) (hN : nW s) (hP : va_P D vwCl ws H) (hD : va_D A0 ws) (hS : va_S A0 H0 H locs) (hA : ∀ x, H0.size ≤ x → A0 x) (hd1 : decode cc pc = .ok (.new i1, 3)) (hd2 : decode cc (pc + 3) = .ok (.dup, 1)) (hd3 : decode cc (pc + 4) = .ok (.invokespecial i2, 3)) (hn : jNw own i1 ci fs N) (hi : jIn y cy nL) (hw : Cond.methodLink own i2 y ∈ jw) (hc : nCt D cI cS d mc2 ms2 y cy nL ci fs Qs) (hd : d + 1 ≤ R.frames ∧ 40 * d + 39 ≤ R.locals) (hcl : cells + 1 + mc2 ≤ R.cells) (hsl : slots + N + ms2 ≤ R.slots) (hls : ls.size = nK)
    (kk : ∀ (q : Nat) (w1 : va_W) (H1 : Heap) (locs1 : List Loc), Qs q w1 → va_P D vwCl (ws ++ w1) H1 → va_D A0 (ws ++ w1) → va_S A0 H0 H1 locs1 → W p l e R s m args below meth c H1 locs1 (cells + 1 + mc2) (slots + N + ms2) Z (F0 m (pc + 7) ls [.ref q])) : W p l e R s m args below meth c H locs cells slots Z (F0 m pc ls []) := by
  obtain ⟨Cn, T, ty, f1, f2, f3, f4, f5, f6, f7⟩ := hn
  obtain ⟨g1, g2, g3, g4, g5, g6⟩ := hi
  refine va_new (fs := fs) hx hb ht f2 ty f3 hown (ht _ f4) (ht _ f5) (ht _ f6) hK hP hD hS hA f1 f7 (by omega) (by omega) hd1 (fun q H1 hP1 hD1 hS1 => ?_)
  refine lv_dup hx hb hd2 rfl ?_
  have hG : GoodIn jw (.code y cy nL none :: jw) := by
    intro w hww
    rcases List.mem_cons.mp hww with rfl | h
    · exact j_good g3
    · exact j_good h
  refine w_init (D := D) (ws := ws) (q := q) (ci := ci) (fs := fs) (Qs := Qs q) (rest := [.ref q]) (va_runI (As := []) (rest := [.ref q]) (n := 0) (nL := nK) ⟨hx, hb, hml, hown, ht⟩ (hc l q H1.size) (cwI 0 ht hG rfl rfl rfl (ht _ g2) (ht _ hw) (ht _ g1) g4 g5 ⟨by show d + 1 ≤ R.frames; omega, by show 8 + (nL + 11) + 40 * d ≤ R.locals; omega⟩) ⟨n_blind, fun U hU hW => ⟨rfl, by rw [hU], by rw [hU]; exact va_P.sub hP1 [ws.length] (by simp), va_K.moved hW.alike hK, hN.warm hW⟩⟩ rfl rfl hls rfl (lv_room (Nat.le_of_ble_eq_true rfl)) hd3 ⟨by omega, by omega⟩) hP1 hD1 hS1 hA (fun w1 H2 locs2 hq hP2 hD2 hS2 => ?_)
  exact kk q w1 H2 locs2 hq hP2 hD2 hS2
end LN
theorem tb1_in : ∀ w ∈ tables_1_1, w ∈ lw_tbl := fun w h => List.mem_append_right _ (List.mem_append_left _ h)
/-- the classes, the array classes, at the law's start -/
theorem lw_known {args : Array Value} {s : State} (hts : ∀ w ∈ lw_tbl, w.before args s = true) : ∃ (D : va_G) (cI cS : ClassId), va_K D vwCl (nT cI cS) s ∧ nW s := by
  have ht : ∀ w ∈ jw, w.before args s = true := fun w hw => hts w (jw_in w hw)
  have hN : nW s := nW.of (fun w hw => hts w (tb1_in w hw))
  have hkn : ∀ c : Nat, ∃ x : ClassId × (Nat → Nat), ∀ q : vw_C, vwCl[c]? = some q → u_Kn s q.1 q.2.1 q.2.2 x.1 x.2 := by
    intro c
    match c with
    | 0 =>
      obtain ⟨Cn, T, ty, f1, f2, f3, f4, f5, f6, f7⟩ := nwX8_28
      obtain ⟨cC, iS, h⟩ := u_known ht f2 (ht _ f5)
      exact ⟨(cC, iS), fun q hq => by rw [f1] at hq; cases hq; exact h⟩
    | 1 =>
      obtain ⟨Cn, T, ty, f1, f2, f3, f4, f5, f6, f7⟩ := nwX8_35
      obtain ⟨cC, iS, h⟩ := u_known ht f2 (ht _ f5)
      exact ⟨(cC, iS), fun q hq => by rw [f1] at hq; cases hq; exact h⟩
    | 2 =>
      obtain ⟨Cn, T, ty, f1, f2, f3, f4, f5, f6, f7⟩ := nwX8_42
      obtain ⟨cC, iS, h⟩ := u_known ht f2 (ht _ f5)
      exact ⟨(cC, iS), fun q hq => by rw [f1] at hq; cases hq; exact h⟩
    | 3 =>
      obtain ⟨Cn, T, ty, f1, f2, f3, f4, f5, f6, f7⟩ := nwX8_56
      obtain ⟨cC, iS, h⟩ := u_known ht f2 (ht _ f5)
      exact ⟨(cC, iS), fun q hq => by rw [f1] at hq; cases hq; exact h⟩
    | 4 =>
      obtain ⟨Cn, T, ty, f1, f2, f3, f4, f5, f6, f7⟩ := nwX8_49
      obtain ⟨cC, iS, h⟩ := u_known ht f2 (ht _ f5)
      exact ⟨(cC, iS), fun q hq => by rw [f1] at hq; cases hq; exact h⟩
    | 5 =>
      obtain ⟨Cn, T, ty, f1, f2, f3, f4, f5, f6, f7⟩ := nwX8_63
      obtain ⟨cC, iS, h⟩ := u_known ht f2 (ht _ f5)
      exact ⟨(cC, iS), fun q hq => by rw [f1] at hq; cases hq; exact h⟩
    | 6 =>
      obtain ⟨Cn, T, ty, f1, f2, f3, f4, f5, f6, f7⟩ := nwX8_21
      obtain ⟨cC, iS, h⟩ := u_known ht f2 (ht _ f5)
      exact ⟨(cC, iS), fun q hq => by rw [f1] at hq; cases hq; exact h⟩
    | 7 =>
      obtain ⟨Cn, T, ty, f1, f2, f3, f4, f5, f6, f7⟩ := nwX8_11
      obtain ⟨cC, iS, h⟩ := u_known ht f2 (ht _ f5)
      exact ⟨(cC, iS), fun q hq => by rw [f1] at hq; cases hq; exact h⟩
    | 8 =>
      obtain ⟨Cn, T, ty, f1, f2, f3, f4, f5, f6, f7⟩ := nwL_7
      obtain ⟨cC, iS, h⟩ := u_known ht f2 (ht _ f5)
      exact ⟨(cC, iS), fun q hq => by rw [f1] at hq; cases hq; exact h⟩
    | 9 =>
      obtain ⟨Cn, T, ty, f1, f2, f3, f4, f5, f6, f7⟩ := nwL_10
      obtain ⟨cC, iS, h⟩ := u_known ht f2 (ht _ f5)
      exact ⟨(cC, iS), fun q hq => by rw [f1] at hq; cases hq; exact h⟩
    | c + 10 => exact ⟨(0, fun _ => 0), fun q hq => by simp [vwCl] at hq⟩
  obtain ⟨f, hf⟩ := Classical.axiomOfChoice hkn
  obtain ⟨cI, kI, compI, a1, a2, a3⟩ := Cond.arrayClass_spec (ht _ jw_ai)
  obtain ⟨comp, cS, kS, b1, b2, b3, b4, b5⟩ := Cond.arrayOver_spec (va_AO.use (A := args) hN.2.2.2.2.2.2.2.2)
  refine ⟨(fun c => (f c).1, fun c => (f c).2), cI, cS, ⟨fun c q hq => hf c q hq, fun k q hk => ?_⟩, hN⟩
  match k, hk with
  | 0, hk =>
    cases hk
    exact ⟨fun n z => ⟨fun k h => (by cases h), kI, a2, compI, a3⟩, a1⟩
  | 1, hk =>
    cases hk
    exact ⟨fun n z => ⟨fun k h => (by cases h), kS, b3, comp, b4⟩, kS, comp, b3, b4, b1, b5⟩
  | k + 2, hk => simp at hk
theorem jwd_start (D : va_G) (cI cS : ClassId) (a8 a9 : Nat → Nat) : jwd (D.1, D.2, cI, cS, fun k => if k < 36 then a8 k else a9 k) σ0 = (wX8 cI cS a8 ++ wX9 cI a9).set 27 (a8 27, .inl (cS, 4, .inr (.inr (.inr (.inr (fun j => some (if 28 + 2 * j < 36 then a8 (28 + 2 * j) else a9 (28 + 2 * j)))))))) := rfl
set_option maxHeartbeats 4000000 in
set_option maxRecDepth 100000 in
theorem whole_start {p : Program} {e : Env} {s : State} {m : MethodId} {below : List Frame} {meth : Method} {c : Code} (l : Launch) (hflags : l.flags = flags0) {b L : Nat} {xs : Nat → Int32} (hL : L ≤ 3072) (C0 : lw_At p s m meth c b L xs) : W p l e room_1 s m #[Value.ref b] below meth c s.heap [] 0 0 (lw_Z below #[Value.ref b] s) (entryFrame m ([Value.ref b] : List Value).toArray 4) := by
  obtain ⟨hx, hb, hr, hml, hown, hts, hX, hbl, hlk, hgv⟩ := id C0
  have ht : ∀ w ∈ jw, w.before #[Value.ref b] s = true := fun w hw => hts w (jw_in w hw)
  obtain ⟨D, cI, cS, hK, hN⟩ := lw_known hts
  have hA : ∀ q : Nat, s.heap.size ≤ q → (fun q : Nat => s.heap.size ≤ q) q := fun _ h => h
  have hS : va_S (fun q : Nat => s.heap.size ≤ q) s.heap s.heap [] := va_S.rf
  have hP : va_P D vwCl [] s.heap := fun k q h => by simp at h
  have hD : va_D (fun q : Nat => s.heap.size ≤ q) [] := ⟨fun i j p q h => by simp at h, fun k q h => by simp at h⟩
  have hl := lv_entry ([.ref b]) (n := 4) (Nat.le_of_ble_eq_true rfl)
  rw [lg_entry_eq]
  generalize (lg_sl ([.ref b]) ++ List.replicate (4 - (lg_sl ([.ref b])).length) Slot.unset).toArray = ls at hl ⊢
  have hl : lv_has ls 4 [(0, .ref b)] := hl
  refine w_new (own := RL) (nK := 4) (cI := cI) (cS := cS) hx hb hml hown ht hK hN hP hD hS hA dL_law_0 dL_law_3 dL_law_4 nwL_7 niX8 kL_9 (c_X8_init (D := D)) ⟨by decide, by decide⟩ (by decide) (by decide) hl.1 (fun q8 w8 H1 locs1 hq8 hP hD hS => ?_)
  obtain ⟨a8, ha8, rfl⟩ := hq8
  refine lv_astore_n (lv' := [(1, .ref q8), (0, .ref b)]) hx hb dL_law_7 rfl hl (by decide) rfl (fun ls hl => ?_)
  refine w_new (own := RL) (nK := 4) (cI := cI) (cS := cS) hx hb hml hown ht hK hN hP hD hS hA dL_law_8 dL_law_11 dL_law_12 nwL_10 niX9 kL_12 (c_X9_init (D := D)) ⟨by decide, by decide⟩ (by decide) (by decide) hl.1 (fun q9 w9 H1 locs1 hq9 hP hD hS => ?_)
  obtain ⟨a9, ha9, rfl⟩ := hq9
  refine lv_astore_n (lv' := [(2, .ref q9), (1, .ref q8), (0, .ref b)]) hx hb dL_law_15 rfl hl (by decide) rfl (fun ls hl => ?_)
  refine lv_iconst (v := iI 0) hx hb dL_law_16 rfl ?_
  refine lv_istore_n (lv' := [(3, vi 0), (2, .ref q9), (1, .ref q8), (0, .ref b)]) hx hb dL_law_17 rfl hl (by decide) rfl (fun ls hl => ?_)
  refine W.widen (k := 600000) (n := 7302250) (by decide) (by decide) ?_
  have hP : va_P D vwCl (wX8 cI cS a8 ++ wX9 cI a9) H1 := hP
  have hD : va_D (fun q : Nat => s.heap.size ≤ q) (wX8 cI cS a8 ++ wX9 cI a9) := hD
  have h27 : (wX8 cI cS a8 ++ wX9 cI a9)[27]? = some (a8 27, .inl (cS, 4, .inr (.inr (.inr (.inr (fun j => some (a8 (28 + 2 * j)))))))) := rfl
  have hP2 := hP.set hD h27 (at_congq (g := fun j => some (if 28 + 2 * j < 36 then a8 (28 + 2 * j) else a9 (28 + 2 * j))) (fun j hj => by rw [if_pos (by omega)]) (hP 27 _ h27)) (fun _ _ => rfl)
  have hD2 := hD.set (e := .inl (cS, 4, .inr (.inr (.inr (.inr (fun j => some (if 28 + 2 * j < 36 then a8 (28 + 2 * j) else a9 (28 + 2 * j)))))))) h27
  rw [← jwd_start D cI cS a8 a9] at hP2 hD2
  have hC : lC (D.1, D.2, cI, cS, fun k => if k < 36 then a8 k else a9 k) p s m meth c b L xs := ⟨C0, hK, fun i j hi hj ee => hD2.1 i j _ _ (jwd_at hi) (jwd_at hj) ee, fun k hk => hD2.2 k _ (jwd_at hk), hL⟩
  have e0 : vr (D.1, D.2, cI, cS, fun k => if k < 36 then a8 k else a9 k) 0 = .ref q8 := by rw [← ha8]; rfl
  have e36 : vr (D.1, D.2, cI, cS, fun k => if k < 36 then a8 k else a9 k) 36 = .ref q9 := by rw [← ha9]; rfl
  refine law_loop hC (L + 1) 0 σ0 (by omega) (by omega) (by omega) σ0_rel σ0_bd H1 _ hP2 hS ls ?_
  have hl2 := lv_sub (l' := [(0, .ref b), (1, .ref q8), (2, .ref q9), (3, vi 0)]) hl [3, 2, 1, 0] rfl
  rw [← e0, ← e36] at hl2
  exact hl2
set_option maxHeartbeats 4000000 in
theorem lw_walk (l : Launch) (hflags : l.flags = flags0) (b : Addr) (xs : List Int32) : MetFree l x (headSpec (Jvm.Cond.code x code maxLocals ret :: tables_1) room_1) (lw_P b xs) (fun _ _ _ _ _ => True) lw_Q := by
  refine MetFree.of_bodyS (code := code) (maxLocals := maxLocals) (ret := ret) (by decide) ?_ ?_
  · intro args s m h hn
    obtain ⟨meth, c, h1, h2, h3, h4, h5, h6, -, -⟩ := Cond.code_spec hn (atoms_spec (ws := Jvm.Cond.code x code maxLocals ret :: tables_1) h _ List.mem_cons_self)
    exact ⟨meth, c, h1, h2, h3, h4, h5, h6⟩
  · intro p e s m args below meth c s₁ B hml0 hP _
    obtain ⟨rfl, hx, hbd, hgv⟩ := hP
    obtain ⟨scr, harrAt, hlist, hof, hsmall⟩ := hx
    obtain ⟨hcb, hkn, -, -⟩ := State.arrayAt?_spec harrAt
    have hown : s.vm.findClass R_law = some m.cls := findClass_of_methodNamed B.named
    have hts0 : ∀ c ∈ (Jvm.Cond.code x code maxLocals ret :: tables_1), c.before #[Value.ref b] s = true := atoms_spec (ws := Jvm.Cond.code x code maxLocals ret :: tables_1) B.pre
    have hts : ∀ w ∈ lw_tbl, w.before #[Value.ref b] s = true := k2_hts_sels lw_privs (fun w hw => hts0 w (List.mem_cons_of_mem _ hw)) lw_privs_ok
    have hml : c.maxLocals = 4 := B.maxLocals_eq (hts0 _ List.mem_cons_self)
    have X₀ : Stand p l e room_1 s m #[Value.ref b] below meth c s₁ [] 0 0 := Stand.of_body B
    have hh0 : s₁.heap = s.heap := by rw [B.state]; rfl
    have hsz : scr.slots.size = xs.length := by rw [← Array.length_toList, hlist, List.length_map]
    have hval : ∀ j : Nat, j < xs.length → scr.slots[j]? = some (.int (xs.getD j 0)) := fun j hj => by
      rw [← Array.getElem?_toList, hlist]
      simp [hj]
    have hbl : b < s.heap.size := (Array.getElem?_eq_some_iff.mp hcb).1
    have hX : va_X b xs.length (fun j => xs.getD j 0) s s.heap := ⟨scr, hcb, hof, hkn, hsz, hval⟩
    have K : W p l e room_1 s m #[Value.ref b] below meth c s₁.heap [] 0 0 (lw_Z below #[Value.ref b] s) (entryFrame m ([Value.ref b] : List Value).toArray 4) := by
      rw [hh0]
      exact whole_start l hflags hbd ⟨B.exec, B.bytes, B.returns, hml, hown, hts, hX, hbl, B.notSynchronized, hgv⟩
    obtain ⟨t, a1, o, b1, b2, b3⟩ := K s₁ rfl X₀
    exact ⟨t, o, a1, b1, b2, b3⟩
theorem lw_pre_spec {args : Array Value} {s : State} (h : (Jvm.Cond.and given_1 narrow_1).before args s = true) (hr : rest_1_c.before args s = true) : ∃ (b : Addr) (xs : List Int32), lw_P b xs args s := by
  have hs := flat_of_before _ h
  have hq := flat_of_before _ hr
  have hc : (Cond.count 1).before args s = true := hs _ (by decide +kernel)
  have harr : (Cond.arrayOf (.arg 0) .int).before args s = true := hs _ (by decide +kernel)
  have hle : (Cond.le (.length (.arg 0)) (.int 3072)).before args s = true := hs _ (by decide +kernel)
  have hlen : (Cond.isInt (.length (.arg 0))).before args s = true := hq _ (by decide +kernel)
  have hall : (Cond.all (.arg 0) (.isInt (.elem (.arg 0) (.index 0)))).before args s = true := hq _ (by decide +kernel)
  obtain ⟨b, xs, hb, hx⟩ := State.ints_of_pre rfl harr hlen hall
  have hsm : xs.length < 2 ^ 31 := hx.choose_spec.2.2.2
  have hev : (Term.length (.arg 0)).eval args s none [] s = some (.int xs.length.toInt32) := hx.length_eval hb
  have hv := Cond.le_ints hev (show (Term.int 3072).eval args s none [] s = some (.int 3072) from rfl)
  have hd : xs.length.toInt32 ≤ 3072 := by
    simpa [Cond.before, Cond.holds, hv] using hle
  have hN : xs.length ≤ 3072 := (Int32.ofNat_le_ofNat hsm (by decide)).mp (show Int32.ofNat xs.length ≤ Int32.ofNat 3072 from hd)
  exact ⟨b, xs, Cond.one_arg hc (show args[0]? = some (.ref b) from hb), hx, hN, h⟩
theorem lw_comes (l : Launch) (hflags : l.flags = flags0) : Comes l x (Jvm.Cond.code x code maxLocals ret :: tables_1) room_1 (fun tb e args s => Calls_1 tb e args s ∧ rest_1 tb e args s ∧ Pre_1 tb e args s)
    (fun _ _ args s o t => lw_Q args s o t) := by
  intro p e ha hc hk s m args below hf hfit hheap happ hpre
  obtain ⟨b, xs, hP⟩ := lw_pre_spec hpre.2.2 hpre.2.1
  obtain ⟨k, o, h1, h2, h3, hQ⟩ := lw_walk l hflags b xs p e ha hc hk s m args below hf ((Spec.applies_iff_loose hf).mp happ).1 hP trivial
  exact ⟨k, o, h1, h2, h3, hQ⟩
theorem lw_frame {s t : State} {o : Outcome} {args : Array Value} (h : Framed s o t [] 600000 7302250) :
    Framed s o t (fieldLocs frame_1_writes args s ++ arrayLocs frame_1_arrays args s ++ staticLocs frame_1_statics s) 600000 7302250 := h
theorem lw_limb (L : Cond) (hL : ∀ (args : Array Value) (s t : State), L.after args s (.returned (some (.int 1))) t = true) :
    ArmFor flags0 classFile x code maxLocals ret World_1 tables_1 room_1 Calls_1 rest_1 Pre_1
      (fun tb e a s o t => postC L tb e a s o t ∧ Framed s o t (fieldLocs frame_1_writes a s ++ arrayLocs frame_1_arrays a s ++ staticLocs frame_1_statics s) 600000 7302250) := by
  intro l hflags _ _ p e ha hc hk s m args below hf hfit hheap happ hpre
  obtain ⟨k, o, h1, h2, h3, rfl, hF⟩ := lw_comes l hflags p e ha hc hk s m args below hf hfit hheap happ hpre
  exact ⟨k, _, h1, h2, h3, hL args s _, lw_frame hF⟩
theorem i_vc : Claimed_1_1 ∧ Claimed_1_2 := ⟨lw_limb limb_1_1 (fun args s t => by simp [limb_1_1, Cond.after, Cond.holds, Cond.value]), lw_limb limb_1_2 (fun args s t => Cond.after_iff.mpr (by
  first | (rw [show limb_1_2 = Cond.eq .result (.int 1) from rfl, Cond.eq_ints (x := 1) (y := 1) rfl rfl]; simp; done) | (simp [limb_1_2, Cond.value, Term.eval]; done)))⟩
