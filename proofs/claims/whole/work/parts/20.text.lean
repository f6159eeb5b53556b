/-! ===== a text, code by code ===== -/
def digM (x : Int) : Int := if 48 ≤ x ∧ x ≤ 57 then x - 48 else -1
def kndM (x : Int) : Int := if x = 112 then 0 else if x = 99 then 1 else if x = 103 then 2 else -1
def comS (s x : Int) (v : jS) (val : Int) : Int × jS := if val < 0 ∨ 6 ≤ v 0 1 ∨ (s = 7 ∧ ¬ (0 ≤ val ∧ val < v 0 0)) then (-1, v) else (s + 1, if s = 8 then jup (jup v 6 (v 0 1) val) 0 1 (v 0 1 + 1) else jup v (s - 2).toNat (v 0 1) val)
def pS (s x : Int) (v : jS) : Int × jS :=
  if s = 0 then (if x = 119 then 1 else -1, v)
  else if s = 1 then (if x = 44 then 2 else -1, v)
  else if s = 2 then (if digM x < 0 ∨ 3 ≤ v 0 0 then (-1, v) else (3, jup (jup v 1 (v 0 0) (digM x)) 0 0 (v 0 0 + 1)))
  else if s = 3 then (if x = 44 ∧ v 0 0 < 3 then 2 else if x = 59 then 4 else -1, v)
  else if s = 9 then (if x = 59 ∧ v 0 1 < 6 then 4 else -1, v)
  else comS s x v (if s = 4 then kndM x else digM x)
def beginV (v : jS) : jS := jup (jup (jup (jup v 0 0 0) 0 1 0) 0 2 0) 0 3 1
def pE (f : Int → Int) (i : Int) (v : jS) : Nat → Int × Int × jS
  | 0 => (-1, 0, v)
  | p + 1 => if ¬ (pE f i v p).1 = -1 then pE f i v p else if (pS (pE f i v p).2.1 (f (i + p)) (pE f i v p).2.2).1 = -1 then ((p : Int), (pE f i v p).2.1, (pE f i v p).2.2) else (-1, (pS (pE f i v p).2.1 (f (i + p)) (pE f i v p).2.2).1, (pS (pE f i v p).2.1 (f (i + p)) (pE f i v p).2.2).2)
def readR (f : Int → Int) (i : Int) (v : jS) (n : Nat) : Int := if ¬ (pE f i v n).1 = -1 then (pE f i v n).1 else if (pE f i v n).2.1 = 9 then -9 else n
theorem digM_b (x : Int) : -1 ≤ digM x ∧ digM x ≤ 9 := by unfold digM; split <;> omega
theorem kndM_b (x : Int) : -1 ≤ kndM x ∧ kndM x ≤ 2 := by unfold kndM; split <;> (try split) <;> (try split) <;> omega
def rS (σ : jS) (S : Int × jS) (z : Int) (σ' : jS) : Prop := S.1 = z ∧ vC σ' 8 = S.2 ∧ ∀ q, (q < 8 ∨ 14 < q) → σ' q = σ q
theorem rS_same {σ : jS} {S : Int × jS} {z : Int} (h1 : S.1 = z) (h2 : S.2 = vC σ 8) : rS σ S z σ := ⟨h1, h2.symm, fun _ _ => rfl⟩
theorem comS_b (s x : Int) (v : jS) (val : Int) : ((comS s x v val).1 = -1 ∧ (comS s x v val).2 = v) ∨ (comS s x v val).1 = s + 1 := by
  unfold comS
  split
  · exact Or.inl ⟨rfl, rfl⟩
  · exact Or.inr rfl
theorem pS_b {s x : Int} {v : jS} (h : 0 ≤ s ∧ s ≤ 9) : -1 ≤ (pS s x v).1 ∧ (pS s x v).1 ≤ 9 := by
  unfold pS
  by_cases h0 : s = 0
  · rw [if_pos h0]; dsimp only; split <;> omega
  rw [if_neg h0]
  by_cases h1 : s = 1
  · rw [if_pos h1]; dsimp only; split <;> omega
  rw [if_neg h1]
  by_cases h2 : s = 2
  · rw [if_pos h2]; split
    · show -1 ≤ -1 ∧ -1 ≤ 9; omega
    · show -1 ≤ 3 ∧ 3 ≤ 9; omega
  rw [if_neg h2]
  by_cases h3 : s = 3
  · rw [if_pos h3]; dsimp only; split
    · omega
    · split <;> omega
  rw [if_neg h3]
  by_cases h9 : s = 9
  · rw [if_pos h9]; dsimp only; split <;> omega
  rw [if_neg h9]
  rcases comS_b s x v (if s = 4 then kndM x else digM x) with h | h <;> omega
section
variable {P : jP} {w o : Nat} {a b c d g x y z n s : Int} {σ τ v : jS}
theorem c_X6_digitOf (hx : inR x := by omega) : Ct P 1 yX6_digitOf cX6_digitOf 1 (some .int) [vi x] σ (rI (digM x) σ) := by
  refine Ct.of _ rfl rfl rfl (Nat.le_of_ble_eq_true rfl) (fun hB => ?_)
  refine J_iload_n (i := 0) 1 dX6_digitOf_0 rfl rfl rfl ?_
  refine J_bipush 3 dX6_digitOf_1 rfl (by decide) ?_
  refine J_icmp_lt 19 6 dX6_digitOf_3 rfl rfl (fun c1 => ?_) (fun c1 => ?_)
  · refine J_iconst 20 dX6_digitOf_19 rfl ?_
    refine J_iret dX6_digitOf_20 rfl ?_
    first | exact ⟨if_pos (by omega), rfl⟩ | exact ⟨if_neg (by omega), rfl⟩
  · refine J_iload_n (i := 0) 7 dX6_digitOf_6 rfl rfl rfl ?_
    refine J_bipush 9 dX6_digitOf_7 rfl (by decide) ?_
    refine J_icmp_gt 19 12 dX6_digitOf_9 rfl rfl (fun c2 => ?_) (fun c2 => ?_)
    · refine J_iconst 20 dX6_digitOf_19 rfl ?_
      refine J_iret dX6_digitOf_20 rfl ?_
      first | exact ⟨if_pos (by omega), rfl⟩ | exact ⟨if_neg (by omega), rfl⟩
    · refine J_iload_n (i := 0) 13 dX6_digitOf_12 rfl rfl rfl ?_
      refine J_bipush 15 dX6_digitOf_13 rfl (by decide) ?_
      refine J_isub 16 dX6_digitOf_15 rfl ?_
      refine J_goto 20 dX6_digitOf_16 rfl ?_
      refine J_iret dX6_digitOf_20 rfl ?_
      first | exact ⟨if_pos (by omega), rfl⟩ | exact ⟨if_neg (by omega), rfl⟩
theorem c_X6_kindOf (hx : inR x := by omega) : Ct P 1 yX6_kindOf cX6_kindOf 1 (some .int) [vi x] σ (rI (kndM x) σ) := by
  refine Ct.of _ rfl rfl rfl (Nat.le_of_ble_eq_true rfl) (fun hB => ?_)
  refine J_iload_n (i := 0) 1 dX6_kindOf_0 rfl rfl rfl ?_
  rcases (show x = 112 ∨ x = 99 ∨ x = 103 ∨ (¬ x = 112 ∧ ¬ x = 99 ∧ ¬ x = 103) by omega) with rfl | rfl | rfl | hx4
  · refine J_lookup 36 dX6_kindOf_1 rfl rfl rfl ?_
    refine J_iconst 37 dX6_kindOf_36 rfl ?_
    refine J_iret dX6_kindOf_37 rfl ?_
    refine ⟨?_, rfl⟩
    unfold kndM
    first | rfl | (rw [if_neg hx4.1, if_neg hx4.2.1, if_neg hx4.2.2]; done)
  · refine J_lookup 38 dX6_kindOf_1 rfl rfl rfl ?_
    refine J_iconst 39 dX6_kindOf_38 rfl ?_
    refine J_iret dX6_kindOf_39 rfl ?_
    refine ⟨?_, rfl⟩
    unfold kndM
    first | rfl | (rw [if_neg hx4.1, if_neg hx4.2.1, if_neg hx4.2.2]; done)
  · refine J_lookup 40 dX6_kindOf_1 rfl rfl rfl ?_
    refine J_iconst 41 dX6_kindOf_40 rfl ?_
    refine J_iret dX6_kindOf_41 rfl ?_
    refine ⟨?_, rfl⟩
    unfold kndM
    first | rfl | (rw [if_neg hx4.1, if_neg hx4.2.1, if_neg hx4.2.2]; done)
  · refine J_lookup 42 dX6_kindOf_1 rfl (by rw [Op.lookupswitch.offset_cons, if_neg (by omega), Op.lookupswitch.offset_cons, if_neg (by omega), Op.lookupswitch.offset_cons, if_neg (by omega)]) rfl ?_
    refine J_iconst 43 dX6_kindOf_42 rfl ?_
    refine J_iret dX6_kindOf_43 rfl ?_
    refine ⟨?_, rfl⟩
    unfold kndM
    first | rfl | (rw [if_neg hx4.1, if_neg hx4.2.1, if_neg hx4.2.2]; done)
theorem c_X6_behindGate (hx : inR x := by omega) : Ct P 1 yX6_behindGate cX6_behindGate 2 (some .int) [vi x, vr P 8] σ (rI (if x = 44 ∧ σ 8 0 < 3 then 2 else if x = 59 then 4 else -1) σ) := by
  refine Ct.of _ rfl rfl rfl (Nat.le_of_ble_eq_true rfl) (fun hB => ?_)
  refine J_iload_n (i := 0) 1 dX6_behindGate_0 rfl rfl rfl ?_
  refine J_bipush 3 dX6_behindGate_1 rfl (by decide) ?_
  refine J_icmp_ne 16 6 dX6_behindGate_3 rfl rfl (fun c1 => ?_) (fun c1 => ?_)
  · refine J_iload_n (i := 0) 17 dX6_behindGate_16 rfl rfl rfl ?_
    refine J_bipush 19 dX6_behindGate_17 rfl (by decide) ?_
    refine J_icmp_ne 26 22 dX6_behindGate_19 rfl rfl (fun c2 => ?_) (fun c2 => ?_)
    · refine J_iconst 27 dX6_behindGate_26 rfl ?_
      refine J_iret dX6_behindGate_27 rfl ?_
      refine ⟨?_, rfl⟩
      first | (rw [if_pos (by omega)]; done) | (rw [if_neg (by omega), if_pos (by omega)]; done) | (rw [if_neg (by omega), if_neg (by omega)]; done)
    · refine J_iconst 23 dX6_behindGate_22 rfl ?_
      refine J_goto 27 dX6_behindGate_23 rfl ?_
      refine J_iret dX6_behindGate_27 rfl ?_
      refine ⟨?_, rfl⟩
      first | (rw [if_pos (by omega)]; done) | (rw [if_neg (by omega), if_pos (by omega)]; done) | (rw [if_neg (by omega), if_neg (by omega)]; done)
  · refine J_aload_n (i := 1) 7 dX6_behindGate_6 rfl rfl rfl ?_
    refine J_getI (jz := 0) (lo := 0) (hi := 3) 10 dX6_behindGate_7 rfl fX6_40 rfl rfl rfl rfl (fun b3 b4 => ?_)
    refine J_iconst 11 dX6_behindGate_10 rfl ?_
    refine J_icmp_ge 16 14 dX6_behindGate_11 rfl rfl (fun c5 => ?_) (fun c5 => ?_)
    · refine J_iload_n (i := 0) 17 dX6_behindGate_16 rfl rfl rfl ?_
      refine J_bipush 19 dX6_behindGate_17 rfl (by decide) ?_
      refine J_icmp_ne 26 22 dX6_behindGate_19 rfl rfl (fun c6 => ?_) (fun c6 => ?_)
      · refine J_iconst 27 dX6_behindGate_26 rfl ?_
        refine J_iret dX6_behindGate_27 rfl ?_
        refine ⟨?_, rfl⟩
        first | (rw [if_pos (by omega)]; done) | (rw [if_neg (by omega), if_pos (by omega)]; done) | (rw [if_neg (by omega), if_neg (by omega)]; done)
      · refine J_iconst 23 dX6_behindGate_22 rfl ?_
        refine J_goto 27 dX6_behindGate_23 rfl ?_
        refine J_iret dX6_behindGate_27 rfl ?_
        refine ⟨?_, rfl⟩
        first | (rw [if_pos (by omega)]; done) | (rw [if_neg (by omega), if_pos (by omega)]; done) | (rw [if_neg (by omega), if_neg (by omega)]; done)
    · refine J_iconst 15 dX6_behindGate_14 rfl ?_
      refine J_iret dX6_behindGate_15 rfl ?_
      refine ⟨?_, rfl⟩
      first | (rw [if_pos (by omega)]; done) | (rw [if_neg (by omega), if_pos (by omega)]; done) | (rw [if_neg (by omega), if_neg (by omega)]; done)
set_option maxHeartbeats 4000000 in
theorem c_X6_takeLoaves (hx : inR x := by omega) : Ct P 2 yX6_takeLoaves cX6_takeLoaves 3 (some .int) [vi x, vr P 8] σ (qi (rS σ (pS 2 x (vC σ 8)))) := by
  have hdb := digM_b x
  have e : pS 2 x (vC σ 8) = if digM x < 0 ∨ 3 ≤ σ 8 0 then (-1, vC σ 8) else (3, jup (jup (vC σ 8) 1 (σ 8 0) (digM x)) 0 0 (σ 8 0 + 1)) := rfl
  rw [e]
  refine Ct.of _ rfl rfl rfl (Nat.le_of_ble_eq_true rfl) (fun hB => ?_)
  refine J_iload_n (i := 0) 1 dX6_takeLoaves_0 rfl rfl rfl ?_
  refine J_callSi 4 dX6_takeLoaves_1 rfl kX6_43 mX6_digitOf (c_X6_digitOf) (by first | decide | omega) rfl rfl (Nat.le_of_ble_eq_true rfl) (fun z2 s3 h1 => ?_)
  obtain ⟨rfl, rfl⟩ := h1
  refine J_istore_n (i := 2) 5 dX6_takeLoaves_4 rfl rfl (by decide) ?_
  refine J_iload_n (i := 2) 6 dX6_takeLoaves_5 rfl rfl rfl ?_
  refine J_if_lt 17 9 dX6_takeLoaves_6 rfl rfl (fun c4 => ?_) (fun c4 => ?_)
  · refine J_iconst 18 dX6_takeLoaves_17 rfl ?_
    refine J_iret dX6_takeLoaves_18 rfl ?_
    rw [if_pos (by omega)]
    exact rS_same rfl rfl
  · refine J_aload_n (i := 1) 10 dX6_takeLoaves_9 rfl rfl rfl ?_
    refine J_getI (jz := 0) (lo := 0) (hi := 3) 13 dX6_takeLoaves_10 rfl fX6_40 rfl rfl rfl rfl (fun b5 b6 => ?_)
    refine J_iconst 14 dX6_takeLoaves_13 rfl ?_
    refine J_icmp_lt 19 17 dX6_takeLoaves_14 rfl rfl (fun c7 => ?_) (fun c7 => ?_)
    · refine J_aload_n (i := 1) 20 dX6_takeLoaves_19 rfl rfl rfl ?_
      refine J_getR 23 dX6_takeLoaves_20 rfl fX6_47 rfl rfl ?_
      refine J_aload_n (i := 1) 24 dX6_takeLoaves_23 rfl rfl rfl ?_
      refine J_getI (jz := 0) (lo := 0) (hi := 3) 27 dX6_takeLoaves_24 rfl fX6_40 rfl rfl rfl rfl (fun b8 b9 => ?_)
      refine J_iload_n (i := 2) 28 dX6_takeLoaves_27 rfl rfl rfl ?_
      refine J_iast (N := 3) (lo := 0) (hi := 9) 29 dX6_takeLoaves_28 rfl rfl rfl rfl ?_
      refine J_aload_n (i := 1) 30 dX6_takeLoaves_29 rfl rfl rfl ?_
      refine J_dup 31 dX6_takeLoaves_30 rfl rfl ?_
      refine J_getI (jz := 0) (lo := 0) (hi := 3) 34 dX6_takeLoaves_31 rfl fX6_40 rfl rfl rfl rfl (fun b10 b11 => ?_)
      try simp only [jup, jset, ↓reduceIte] at b10 b11 ⊢
      refine J_iconst 35 dX6_takeLoaves_34 rfl ?_
      refine J_iadd 36 dX6_takeLoaves_35 rfl ?_
      refine J_putI (jz := 0) (lo := 0) (hi := 3) 39 dX6_takeLoaves_36 rfl gX6_40 rfl rfl rfl rfl ?_
      refine J_iconst 40 dX6_takeLoaves_39 rfl ?_
      refine J_iret dX6_takeLoaves_40 rfl ?_
      rw [if_neg (by omega)]
      refine ⟨rfl, ?_, fun q hq => by funext j; unfold jup; rw [if_neg (by omega), if_neg (by omega)]⟩
      have h1 := vC_up (jup σ 9 (σ 8 0) (digM x)) 8 0 0 (σ 8 0 + 1) (by omega)
      have h2 := vC_up σ 8 1 (σ 8 0) (digM x) (by omega)
      rw [h2] at h1
      exact h1
    · refine J_iconst 18 dX6_takeLoaves_17 rfl ?_
      refine J_iret dX6_takeLoaves_18 rfl ?_
      rw [if_pos (by omega)]
      exact rS_same rfl rfl
set_option maxHeartbeats 4000000 in
theorem c_X6_takeOfComer (hs : 4 ≤ s ∧ s ≤ 8 := by omega) (hx : inR x := by omega) : Ct P 2 yX6_takeOfComer cX6_takeOfComer 5 (some .int) [vi s, vi x, vr P 8] σ (qi (rS σ (pS s x (vC σ 8)))) := by
  refine Ct.bd (fun hB => ?_)
  have hg3 := vC_g hB (w := 8) (Or.inr rfl)
  have hdb := digM_b x
  have hkb := kndM_b x
  have e : pS s x (vC σ 8) = comS s x (vC σ 8) (if s = 4 then kndM x else digM x) := by
    unfold pS
    rw [if_neg (by omega), if_neg (by omega), if_neg (by omega), if_neg (by omega), if_neg (by omega)]
  have e2 : ∀ val : Int, comS s x (vC σ 8) val = if val < 0 ∨ 6 ≤ σ 8 1 ∨ (s = 7 ∧ ¬ (0 ≤ val ∧ val < σ 8 0)) then (-1, vC σ 8) else (s + 1, if s = 8 then jup (jup (vC σ 8) 6 (σ 8 1) val) 0 1 (σ 8 1 + 1) else jup (vC σ 8) (s - 2).toNat (σ 8 1) val) := fun _ => rfl
  have fr : ∀ (k : Nat) (j z : Int), 8 ≤ k ∧ k ≤ 14 → ∀ q, (q < 8 ∨ 14 < q) → jup σ k j z q = σ q := fun k j z hk q hq => by funext j; unfold jup; rw [if_neg (by omega)]
  have bad : ∀ val : Int, (val < 0 ∨ 6 ≤ σ 8 1 ∨ (s = 7 ∧ ¬ (0 ≤ val ∧ val < σ 8 0))) → rS σ (comS s x (vC σ 8) val) (-1) σ := fun val h => by rw [e2, if_pos h]; exact rS_same rfl rfl
  have good : ∀ (val : Int) (k : Nat), ¬ (val < 0 ∨ 6 ≤ σ 8 1 ∨ (s = 7 ∧ ¬ (0 ≤ val ∧ val < σ 8 0))) → s ≠ 8 → k = (s - 2).toNat → k ≤ 6 → rS σ (comS s x (vC σ 8) val) (s + 1) (jup σ (8 + k) (σ 8 1) val) := fun val k h h8 hk hk6 => by
    rw [e2, if_neg h, if_neg h8]
    exact ⟨rfl, by rw [vC_up _ _ _ _ _ hk6, hk], fr _ _ _ (by omega)⟩
  have good8 : ∀ (val : Int), ¬ (val < 0 ∨ 6 ≤ σ 8 1 ∨ (s = 7 ∧ ¬ (0 ≤ val ∧ val < σ 8 0))) → s = 8 → rS σ (comS s x (vC σ 8) val) (s + 1) (jup (jup σ 14 (σ 8 1) val) 8 1 (σ 8 1 + 1)) := fun val h h8 => by
    rw [e2, if_neg h, if_pos h8]
    have h1 := vC_up (jup σ 14 (σ 8 1) val) 8 0 1 (σ 8 1 + 1) (by omega)
    have h2 := vC_up σ 8 6 (σ 8 1) val (by omega)
    rw [h2] at h1
    exact ⟨rfl, h1, fun q hq => by funext j; unfold jup; rw [if_neg (by omega), if_neg (by omega)]⟩
  rw [e]
  refine Ct.of _ rfl rfl rfl (Nat.le_of_ble_eq_true rfl) (fun hB => ?_)
  refine J_aload_n (i := 2) 1 dX6_takeOfComer_0 rfl rfl rfl ?_
  refine J_getI (jz := 1) (lo := 0) (hi := 6) 4 dX6_takeOfComer_1 rfl fX6_33 rfl rfl rfl rfl (fun b1 b2 => ?_)
  refine J_istore_n (i := 3) 5 dX6_takeOfComer_4 rfl rfl (by decide) ?_
  refine J_iload_n (i := 0) 6 dX6_takeOfComer_5 rfl rfl rfl ?_
  refine J_iconst 7 dX6_takeOfComer_6 rfl ?_
  refine J_icmp_ne 17 10 dX6_takeOfComer_7 rfl rfl (fun c3 => ?_) (fun c3 => ?_)
  · refine J_iload_n (i := 1) 18 dX6_takeOfComer_17 rfl rfl rfl ?_
    refine J_callSi 21 dX6_takeOfComer_18 rfl kX6_43 mX6_digitOf (c_X6_digitOf) (by first | decide | omega) rfl rfl (Nat.le_of_ble_eq_true rfl) (fun z5 s6 h4 => ?_)
    obtain ⟨rfl, rfl⟩ := h4
    refine J_istore 23 dX6_takeOfComer_21 rfl (by decide) ?_
    refine J_iload 25 dX6_takeOfComer_23 rfl rfl ?_
    refine J_if_lt 49 28 dX6_takeOfComer_25 rfl rfl (fun c7 => ?_) (fun c7 => ?_)
    · refine J_iconst 50 dX6_takeOfComer_49 rfl ?_
      refine J_iret dX6_takeOfComer_50 rfl ?_
      first | (rw [if_pos (by omega)]; exact bad _ (by omega)) | (rw [if_neg (by omega)]; exact bad _ (by omega))
    · refine J_iload_n (i := 3) 29 dX6_takeOfComer_28 rfl rfl rfl ?_
      refine J_bipush 31 dX6_takeOfComer_29 rfl (by decide) ?_
      refine J_icmp_ge 49 34 dX6_takeOfComer_31 rfl rfl (fun c8 => ?_) (fun c8 => ?_)
      · refine J_iconst 50 dX6_takeOfComer_49 rfl ?_
        refine J_iret dX6_takeOfComer_50 rfl ?_
        first | (rw [if_pos (by omega)]; exact bad _ (by omega)) | (rw [if_neg (by omega)]; exact bad _ (by omega))
      · refine J_iload_n (i := 0) 35 dX6_takeOfComer_34 rfl rfl rfl ?_
        refine J_bipush 37 dX6_takeOfComer_35 rfl (by decide) ?_
        refine J_icmp_ne 51 40 dX6_takeOfComer_37 rfl rfl (fun c9 => ?_) (fun c9 => ?_)
        · refine J_iload_n (i := 0) 52 dX6_takeOfComer_51 rfl rfl rfl ?_
          rcases (show s = 4 ∨ s = 5 ∨ s = 6 ∨ s = 7 ∨ s = 8 by omega) with rfl | rfl | rfl | rfl | rfl
          · refine J_tableIn 88 dX6_takeOfComer_52 rfl rfl ?_
            refine J_aload_n (i := 2) 89 dX6_takeOfComer_88 rfl rfl rfl ?_
            refine J_getR 92 dX6_takeOfComer_89 rfl fX6_57 rfl rfl ?_
            refine J_iload_n (i := 3) 93 dX6_takeOfComer_92 rfl rfl rfl ?_
            refine J_iload 95 dX6_takeOfComer_93 rfl rfl ?_
            refine J_iast (N := 6) (lo := 0) (hi := 2) 96 dX6_takeOfComer_95 rfl rfl rfl rfl ?_
            refine J_goto 155 dX6_takeOfComer_96 rfl ?_
            refine J_iload_n (i := 0) 156 dX6_takeOfComer_155 rfl rfl rfl ?_
            refine J_iconst 157 dX6_takeOfComer_156 rfl ?_
            refine J_iadd 158 dX6_takeOfComer_157 rfl ?_
            refine J_iret dX6_takeOfComer_158 rfl ?_
            first
              | (exfalso; omega)
              | (rw [if_pos (by omega)]; exact good _ 2 (by omega) (by omega) rfl (by omega))
              | (rw [if_neg (by omega)]; first | exact good8 _ (by omega) rfl | exact good _ 3 (by omega) (by omega) rfl (by omega) | exact good _ 4 (by omega) (by omega) rfl (by omega) | exact good _ 5 (by omega) (by omega) rfl (by omega))
          · refine J_tableIn 99 dX6_takeOfComer_52 rfl rfl ?_
            refine J_aload_n (i := 2) 100 dX6_takeOfComer_99 rfl rfl rfl ?_
            refine J_getR 103 dX6_takeOfComer_100 rfl fX6_60 rfl rfl ?_
            refine J_iload_n (i := 3) 104 dX6_takeOfComer_103 rfl rfl rfl ?_
            refine J_iload 106 dX6_takeOfComer_104 rfl rfl ?_
            refine J_iast (N := 6) (lo := 0) (hi := 9) 107 dX6_takeOfComer_106 rfl rfl rfl rfl ?_
            refine J_goto 155 dX6_takeOfComer_107 rfl ?_
            refine J_iload_n (i := 0) 156 dX6_takeOfComer_155 rfl rfl rfl ?_
            refine J_iconst 157 dX6_takeOfComer_156 rfl ?_
            refine J_iadd 158 dX6_takeOfComer_157 rfl ?_
            refine J_iret dX6_takeOfComer_158 rfl ?_
            first
              | (exfalso; omega)
              | (rw [if_pos (by omega)]; exact good _ 2 (by omega) (by omega) rfl (by omega))
              | (rw [if_neg (by omega)]; first | exact good8 _ (by omega) rfl | exact good _ 3 (by omega) (by omega) rfl (by omega) | exact good _ 4 (by omega) (by omega) rfl (by omega) | exact good _ 5 (by omega) (by omega) rfl (by omega))
          · refine J_tableIn 110 dX6_takeOfComer_52 rfl rfl ?_
            refine J_aload_n (i := 2) 111 dX6_takeOfComer_110 rfl rfl rfl ?_
            refine J_getR 114 dX6_takeOfComer_111 rfl fX6_63 rfl rfl ?_
            refine J_iload_n (i := 3) 115 dX6_takeOfComer_114 rfl rfl rfl ?_
            refine J_iload 117 dX6_takeOfComer_115 rfl rfl ?_
            refine J_iast (N := 6) (lo := 0) (hi := 9) 118 dX6_takeOfComer_117 rfl rfl rfl rfl ?_
            refine J_goto 155 dX6_takeOfComer_118 rfl ?_
            refine J_iload_n (i := 0) 156 dX6_takeOfComer_155 rfl rfl rfl ?_
            refine J_iconst 157 dX6_takeOfComer_156 rfl ?_
            refine J_iadd 158 dX6_takeOfComer_157 rfl ?_
            refine J_iret dX6_takeOfComer_158 rfl ?_
            first
              | (exfalso; omega)
              | (rw [if_pos (by omega)]; exact good _ 2 (by omega) (by omega) rfl (by omega))
              | (rw [if_neg (by omega)]; first | exact good8 _ (by omega) rfl | exact good _ 3 (by omega) (by omega) rfl (by omega) | exact good _ 4 (by omega) (by omega) rfl (by omega) | exact good _ 5 (by omega) (by omega) rfl (by omega))
          · refine J_tableIn 121 dX6_takeOfComer_52 rfl rfl ?_
            refine J_aload_n (i := 2) 122 dX6_takeOfComer_121 rfl rfl rfl ?_
            refine J_getR 125 dX6_takeOfComer_122 rfl fX6_66 rfl rfl ?_
            refine J_iload_n (i := 3) 126 dX6_takeOfComer_125 rfl rfl rfl ?_
            refine J_iload 128 dX6_takeOfComer_126 rfl rfl ?_
            refine J_iast (N := 6) (lo := 0) (hi := 2) 129 dX6_takeOfComer_128 rfl rfl rfl rfl ?_
            refine J_goto 155 dX6_takeOfComer_129 rfl ?_
            refine J_iload_n (i := 0) 156 dX6_takeOfComer_155 rfl rfl rfl ?_
            refine J_iconst 157 dX6_takeOfComer_156 rfl ?_
            refine J_iadd 158 dX6_takeOfComer_157 rfl ?_
            refine J_iret dX6_takeOfComer_158 rfl ?_
            first
              | (exfalso; omega)
              | (rw [if_pos (by omega)]; exact good _ 2 (by omega) (by omega) rfl (by omega))
              | (rw [if_neg (by omega)]; first | exact good8 _ (by omega) rfl | exact good _ 3 (by omega) (by omega) rfl (by omega) | exact good _ 4 (by omega) (by omega) rfl (by omega) | exact good _ 5 (by omega) (by omega) rfl (by omega))
          · refine J_tableIn 132 dX6_takeOfComer_52 rfl rfl ?_
            refine J_aload_n (i := 2) 133 dX6_takeOfComer_132 rfl rfl rfl ?_
            refine J_getR 136 dX6_takeOfComer_133 rfl fX6_69 rfl rfl ?_
            refine J_iload_n (i := 3) 137 dX6_takeOfComer_136 rfl rfl rfl ?_
            refine J_iload 139 dX6_takeOfComer_137 rfl rfl ?_
            refine J_iast (N := 6) (lo := 0) (hi := 9) 140 dX6_takeOfComer_139 rfl rfl rfl rfl ?_
            refine J_aload_n (i := 2) 141 dX6_takeOfComer_140 rfl rfl rfl ?_
            refine J_dup 142 dX6_takeOfComer_141 rfl rfl ?_
            refine J_getI (jz := 1) (lo := 0) (hi := 6) 145 dX6_takeOfComer_142 rfl fX6_33 rfl rfl rfl rfl (fun b10 b11 => ?_)
            try simp only [jup, jset, ↓reduceIte] at b10 b11 ⊢
            refine J_iconst 146 dX6_takeOfComer_145 rfl ?_
            refine J_iadd 147 dX6_takeOfComer_146 rfl ?_
            refine J_putI (jz := 1) (lo := 0) (hi := 6) 150 dX6_takeOfComer_147 rfl gX6_33 rfl rfl rfl rfl ?_
            refine J_goto 155 dX6_takeOfComer_150 rfl ?_
            refine J_iload_n (i := 0) 156 dX6_takeOfComer_155 rfl rfl rfl ?_
            refine J_iconst 157 dX6_takeOfComer_156 rfl ?_
            refine J_iadd 158 dX6_takeOfComer_157 rfl ?_
            refine J_iret dX6_takeOfComer_158 rfl ?_
            first
              | (exfalso; omega)
              | (rw [if_pos (by omega)]; exact good _ 2 (by omega) (by omega) rfl (by omega))
              | (rw [if_neg (by omega)]; first | exact good8 _ (by omega) rfl | exact good _ 3 (by omega) (by omega) rfl (by omega) | exact good _ 4 (by omega) (by omega) rfl (by omega) | exact good _ 5 (by omega) (by omega) rfl (by omega))
        · refine J_aload_n (i := 2) 41 dX6_takeOfComer_40 rfl rfl rfl ?_
          refine J_iload 43 dX6_takeOfComer_41 rfl rfl ?_
          refine J_callVi 46 dX6_takeOfComer_43 rfl kX6_53 mX7_hasGate rfl rfl rfl (c_X7_hasGate) (by first | decide | omega) rfl rfl (Nat.le_of_ble_eq_true rfl) (fun z13 s14 h12 => ?_)
          obtain ⟨rfl, rfl⟩ := h12
          refine J_bif_ne 51 49 dX6_takeOfComer_46 rfl rfl (fun c15 => ?_) (fun c15 => ?_)
          · refine J_iload_n (i := 0) 52 dX6_takeOfComer_51 rfl rfl rfl ?_
            rcases (show s = 4 ∨ s = 5 ∨ s = 6 ∨ s = 7 ∨ s = 8 by omega) with rfl | rfl | rfl | rfl | rfl
            · refine J_tableIn 88 dX6_takeOfComer_52 rfl rfl ?_
              refine J_aload_n (i := 2) 89 dX6_takeOfComer_88 rfl rfl rfl ?_
              refine J_getR 92 dX6_takeOfComer_89 rfl fX6_57 rfl rfl ?_
              refine J_iload_n (i := 3) 93 dX6_takeOfComer_92 rfl rfl rfl ?_
              refine J_iload 95 dX6_takeOfComer_93 rfl rfl ?_
              refine J_iast (N := 6) (lo := 0) (hi := 2) 96 dX6_takeOfComer_95 rfl rfl rfl rfl ?_
              refine J_goto 155 dX6_takeOfComer_96 rfl ?_
              refine J_iload_n (i := 0) 156 dX6_takeOfComer_155 rfl rfl rfl ?_
              refine J_iconst 157 dX6_takeOfComer_156 rfl ?_
              refine J_iadd 158 dX6_takeOfComer_157 rfl ?_
              refine J_iret dX6_takeOfComer_158 rfl ?_
              first
                | (exfalso; omega)
                | (rw [if_pos (by omega)]; exact good _ 2 (by omega) (by omega) rfl (by omega))
                | (rw [if_neg (by omega)]; first | exact good8 _ (by omega) rfl | exact good _ 3 (by omega) (by omega) rfl (by omega) | exact good _ 4 (by omega) (by omega) rfl (by omega) | exact good _ 5 (by omega) (by omega) rfl (by omega))
            · refine J_tableIn 99 dX6_takeOfComer_52 rfl rfl ?_
              refine J_aload_n (i := 2) 100 dX6_takeOfComer_99 rfl rfl rfl ?_
              refine J_getR 103 dX6_takeOfComer_100 rfl fX6_60 rfl rfl ?_
              refine J_iload_n (i := 3) 104 dX6_takeOfComer_103 rfl rfl rfl ?_
              refine J_iload 106 dX6_takeOfComer_104 rfl rfl ?_
              refine J_iast (N := 6) (lo := 0) (hi := 9) 107 dX6_takeOfComer_106 rfl rfl rfl rfl ?_
              refine J_goto 155 dX6_takeOfComer_107 rfl ?_
              refine J_iload_n (i := 0) 156 dX6_takeOfComer_155 rfl rfl rfl ?_
              refine J_iconst 157 dX6_takeOfComer_156 rfl ?_
              refine J_iadd 158 dX6_takeOfComer_157 rfl ?_
              refine J_iret dX6_takeOfComer_158 rfl ?_
              first
                | (exfalso; omega)
                | (rw [if_pos (by omega)]; exact good _ 2 (by omega) (by omega) rfl (by omega))
                | (rw [if_neg (by omega)]; first | exact good8 _ (by omega) rfl | exact good _ 3 (by omega) (by omega) rfl (by omega) | exact good _ 4 (by omega) (by omega) rfl (by omega) | exact good _ 5 (by omega) (by omega) rfl (by omega))
            · refine J_tableIn 110 dX6_takeOfComer_52 rfl rfl ?_
              refine J_aload_n (i := 2) 111 dX6_takeOfComer_110 rfl rfl rfl ?_
              refine J_getR 114 dX6_takeOfComer_111 rfl fX6_63 rfl rfl ?_
              refine J_iload_n (i := 3) 115 dX6_takeOfComer_114 rfl rfl rfl ?_
              refine J_iload 117 dX6_takeOfComer_115 rfl rfl ?_
              refine J_iast (N := 6) (lo := 0) (hi := 9) 118 dX6_takeOfComer_117 rfl rfl rfl rfl ?_
              refine J_goto 155 dX6_takeOfComer_118 rfl ?_
              refine J_iload_n (i := 0) 156 dX6_takeOfComer_155 rfl rfl rfl ?_
              refine J_iconst 157 dX6_takeOfComer_156 rfl ?_
              refine J_iadd 158 dX6_takeOfComer_157 rfl ?_
              refine J_iret dX6_takeOfComer_158 rfl ?_
              first
                | (exfalso; omega)
                | (rw [if_pos (by omega)]; exact good _ 2 (by omega) (by omega) rfl (by omega))
                | (rw [if_neg (by omega)]; first | exact good8 _ (by omega) rfl | exact good _ 3 (by omega) (by omega) rfl (by omega) | exact good _ 4 (by omega) (by omega) rfl (by omega) | exact good _ 5 (by omega) (by omega) rfl (by omega))
            · refine J_tableIn 121 dX6_takeOfComer_52 rfl rfl ?_
              refine J_aload_n (i := 2) 122 dX6_takeOfComer_121 rfl rfl rfl ?_
              refine J_getR 125 dX6_takeOfComer_122 rfl fX6_66 rfl rfl ?_
              refine J_iload_n (i := 3) 126 dX6_takeOfComer_125 rfl rfl rfl ?_
              refine J_iload 128 dX6_takeOfComer_126 rfl rfl ?_
              refine J_iast (N := 6) (lo := 0) (hi := 2) 129 dX6_takeOfComer_128 rfl rfl rfl rfl ?_
              refine J_goto 155 dX6_takeOfComer_129 rfl ?_
              refine J_iload_n (i := 0) 156 dX6_takeOfComer_155 rfl rfl rfl ?_
              refine J_iconst 157 dX6_takeOfComer_156 rfl ?_
              refine J_iadd 158 dX6_takeOfComer_157 rfl ?_
              refine J_iret dX6_takeOfComer_158 rfl ?_
              first
                | (exfalso; omega)
                | (rw [if_pos (by omega)]; exact good _ 2 (by omega) (by omega) rfl (by omega))
                | (rw [if_neg (by omega)]; first | exact good8 _ (by omega) rfl | exact good _ 3 (by omega) (by omega) rfl (by omega) | exact good _ 4 (by omega) (by omega) rfl (by omega) | exact good _ 5 (by omega) (by omega) rfl (by omega))
            · refine J_tableIn 132 dX6_takeOfComer_52 rfl rfl ?_
              refine J_aload_n (i := 2) 133 dX6_takeOfComer_132 rfl rfl rfl ?_
              refine J_getR 136 dX6_takeOfComer_133 rfl fX6_69 rfl rfl ?_
              refine J_iload_n (i := 3) 137 dX6_takeOfComer_136 rfl rfl rfl ?_
              refine J_iload 139 dX6_takeOfComer_137 rfl rfl ?_
              refine J_iast (N := 6) (lo := 0) (hi := 9) 140 dX6_takeOfComer_139 rfl rfl rfl rfl ?_
              refine J_aload_n (i := 2) 141 dX6_takeOfComer_140 rfl rfl rfl ?_
              refine J_dup 142 dX6_takeOfComer_141 rfl rfl ?_
              refine J_getI (jz := 1) (lo := 0) (hi := 6) 145 dX6_takeOfComer_142 rfl fX6_33 rfl rfl rfl rfl (fun b16 b17 => ?_)
              try simp only [jup, jset, ↓reduceIte] at b16 b17 ⊢
              refine J_iconst 146 dX6_takeOfComer_145 rfl ?_
              refine J_iadd 147 dX6_takeOfComer_146 rfl ?_
              refine J_putI (jz := 1) (lo := 0) (hi := 6) 150 dX6_takeOfComer_147 rfl gX6_33 rfl rfl rfl rfl ?_
              refine J_goto 155 dX6_takeOfComer_150 rfl ?_
              refine J_iload_n (i := 0) 156 dX6_takeOfComer_155 rfl rfl rfl ?_
              refine J_iconst 157 dX6_takeOfComer_156 rfl ?_
              refine J_iadd 158 dX6_takeOfComer_157 rfl ?_
              refine J_iret dX6_takeOfComer_158 rfl ?_
              first
                | (exfalso; omega)
                | (rw [if_pos (by omega)]; exact good _ 2 (by omega) (by omega) rfl (by omega))
                | (rw [if_neg (by omega)]; first | exact good8 _ (by omega) rfl | exact good _ 3 (by omega) (by omega) rfl (by omega) | exact good _ 4 (by omega) (by omega) rfl (by omega) | exact good _ 5 (by omega) (by omega) rfl (by omega))
          · refine J_iconst 50 dX6_takeOfComer_49 rfl ?_
            refine J_iret dX6_takeOfComer_50 rfl ?_
            first | (rw [if_pos (by omega)]; exact bad _ (by omega)) | (rw [if_neg (by omega)]; exact bad _ (by omega))
  · refine J_iload_n (i := 1) 11 dX6_takeOfComer_10 rfl rfl rfl ?_
    refine J_callSi 14 dX6_takeOfComer_11 rfl kX6_50 mX6_kindOf (c_X6_kindOf) (by first | decide | omega) rfl rfl (Nat.le_of_ble_eq_true rfl) (fun z19 s20 h18 => ?_)
    obtain ⟨rfl, rfl⟩ := h18
    refine J_goto 21 dX6_takeOfComer_14 rfl ?_
    refine J_istore 23 dX6_takeOfComer_21 rfl (by decide) ?_
    refine J_iload 25 dX6_takeOfComer_23 rfl rfl ?_
    refine J_if_lt 49 28 dX6_takeOfComer_25 rfl rfl (fun c21 => ?_) (fun c21 => ?_)
    · refine J_iconst 50 dX6_takeOfComer_49 rfl ?_
      refine J_iret dX6_takeOfComer_50 rfl ?_
      first | (rw [if_pos (by omega)]; exact bad _ (by omega)) | (rw [if_neg (by omega)]; exact bad _ (by omega))
    · refine J_iload_n (i := 3) 29 dX6_takeOfComer_28 rfl rfl rfl ?_
      refine J_bipush 31 dX6_takeOfComer_29 rfl (by decide) ?_
      refine J_icmp_ge 49 34 dX6_takeOfComer_31 rfl rfl (fun c22 => ?_) (fun c22 => ?_)
      · refine J_iconst 50 dX6_takeOfComer_49 rfl ?_
        refine J_iret dX6_takeOfComer_50 rfl ?_
        first | (rw [if_pos (by omega)]; exact bad _ (by omega)) | (rw [if_neg (by omega)]; exact bad _ (by omega))
      · refine J_iload_n (i := 0) 35 dX6_takeOfComer_34 rfl rfl rfl ?_
        refine J_bipush 37 dX6_takeOfComer_35 rfl (by decide) ?_
        refine J_icmp_ne 51 40 dX6_takeOfComer_37 rfl rfl (fun c23 => ?_) (fun c23 => ?_)
        · refine J_iload_n (i := 0) 52 dX6_takeOfComer_51 rfl rfl rfl ?_
          rcases (show s = 4 ∨ s = 5 ∨ s = 6 ∨ s = 7 ∨ s = 8 by omega) with rfl | rfl | rfl | rfl | rfl
          · refine J_tableIn 88 dX6_takeOfComer_52 rfl rfl ?_
            refine J_aload_n (i := 2) 89 dX6_takeOfComer_88 rfl rfl rfl ?_
            refine J_getR 92 dX6_takeOfComer_89 rfl fX6_57 rfl rfl ?_
            refine J_iload_n (i := 3) 93 dX6_takeOfComer_92 rfl rfl rfl ?_
            refine J_iload 95 dX6_takeOfComer_93 rfl rfl ?_
            refine J_iast (N := 6) (lo := 0) (hi := 2) 96 dX6_takeOfComer_95 rfl rfl rfl rfl ?_
            refine J_goto 155 dX6_takeOfComer_96 rfl ?_
            refine J_iload_n (i := 0) 156 dX6_takeOfComer_155 rfl rfl rfl ?_
            refine J_iconst 157 dX6_takeOfComer_156 rfl ?_
            refine J_iadd 158 dX6_takeOfComer_157 rfl ?_
            refine J_iret dX6_takeOfComer_158 rfl ?_
            first
              | (exfalso; omega)
              | (rw [if_pos (by omega)]; exact good _ 2 (by omega) (by omega) rfl (by omega))
              | (rw [if_neg (by omega)]; first | exact good8 _ (by omega) rfl | exact good _ 3 (by omega) (by omega) rfl (by omega) | exact good _ 4 (by omega) (by omega) rfl (by omega) | exact good _ 5 (by omega) (by omega) rfl (by omega))
          · refine J_tableIn 99 dX6_takeOfComer_52 rfl rfl ?_
            refine J_aload_n (i := 2) 100 dX6_takeOfComer_99 rfl rfl rfl ?_
            refine J_getR 103 dX6_takeOfComer_100 rfl fX6_60 rfl rfl ?_
            refine J_iload_n (i := 3) 104 dX6_takeOfComer_103 rfl rfl rfl ?_
            refine J_iload 106 dX6_takeOfComer_104 rfl rfl ?_
            refine J_iast (N := 6) (lo := 0) (hi := 9) 107 dX6_takeOfComer_106 rfl rfl rfl rfl ?_
            refine J_goto 155 dX6_takeOfComer_107 rfl ?_
            refine J_iload_n (i := 0) 156 dX6_takeOfComer_155 rfl rfl rfl ?_
            refine J_iconst 157 dX6_takeOfComer_156 rfl ?_
            refine J_iadd 158 dX6_takeOfComer_157 rfl ?_
            refine J_iret dX6_takeOfComer_158 rfl ?_
            first
              | (exfalso; omega)
              | (rw [if_pos (by omega)]; exact good _ 2 (by omega) (by omega) rfl (by omega))
              | (rw [if_neg (by omega)]; first | exact good8 _ (by omega) rfl | exact good _ 3 (by omega) (by omega) rfl (by omega) | exact good _ 4 (by omega) (by omega) rfl (by omega) | exact good _ 5 (by omega) (by omega) rfl (by omega))
          · refine J_tableIn 110 dX6_takeOfComer_52 rfl rfl ?_
            refine J_aload_n (i := 2) 111 dX6_takeOfComer_110 rfl rfl rfl ?_
            refine J_getR 114 dX6_takeOfComer_111 rfl fX6_63 rfl rfl ?_
            refine J_iload_n (i := 3) 115 dX6_takeOfComer_114 rfl rfl rfl ?_
            refine J_iload 117 dX6_takeOfComer_115 rfl rfl ?_
            refine J_iast (N := 6) (lo := 0) (hi := 9) 118 dX6_takeOfComer_117 rfl rfl rfl rfl ?_
            refine J_goto 155 dX6_takeOfComer_118 rfl ?_
            refine J_iload_n (i := 0) 156 dX6_takeOfComer_155 rfl rfl rfl ?_
            refine J_iconst 157 dX6_takeOfComer_156 rfl ?_
            refine J_iadd 158 dX6_takeOfComer_157 rfl ?_
            refine J_iret dX6_takeOfComer_158 rfl ?_
            first
              | (exfalso; omega)
              | (rw [if_pos (by omega)]; exact good _ 2 (by omega) (by omega) rfl (by omega))
              | (rw [if_neg (by omega)]; first | exact good8 _ (by omega) rfl | exact good _ 3 (by omega) (by omega) rfl (by omega) | exact good _ 4 (by omega) (by omega) rfl (by omega) | exact good _ 5 (by omega) (by omega) rfl (by omega))
          · refine J_tableIn 121 dX6_takeOfComer_52 rfl rfl ?_
            refine J_aload_n (i := 2) 122 dX6_takeOfComer_121 rfl rfl rfl ?_
            refine J_getR 125 dX6_takeOfComer_122 rfl fX6_66 rfl rfl ?_
            refine J_iload_n (i := 3) 126 dX6_takeOfComer_125 rfl rfl rfl ?_
            refine J_iload 128 dX6_takeOfComer_126 rfl rfl ?_
            refine J_iast (N := 6) (lo := 0) (hi := 2) 129 dX6_takeOfComer_128 rfl rfl rfl rfl ?_
            refine J_goto 155 dX6_takeOfComer_129 rfl ?_
            refine J_iload_n (i := 0) 156 dX6_takeOfComer_155 rfl rfl rfl ?_
            refine J_iconst 157 dX6_takeOfComer_156 rfl ?_
            refine J_iadd 158 dX6_takeOfComer_157 rfl ?_
            refine J_iret dX6_takeOfComer_158 rfl ?_
            first
              | (exfalso; omega)
              | (rw [if_pos (by omega)]; exact good _ 2 (by omega) (by omega) rfl (by omega))
              | (rw [if_neg (by omega)]; first | exact good8 _ (by omega) rfl | exact good _ 3 (by omega) (by omega) rfl (by omega) | exact good _ 4 (by omega) (by omega) rfl (by omega) | exact good _ 5 (by omega) (by omega) rfl (by omega))
          · refine J_tableIn 132 dX6_takeOfComer_52 rfl rfl ?_
            refine J_aload_n (i := 2) 133 dX6_takeOfComer_132 rfl rfl rfl ?_
            refine J_getR 136 dX6_takeOfComer_133 rfl fX6_69 rfl rfl ?_
            refine J_iload_n (i := 3) 137 dX6_takeOfComer_136 rfl rfl rfl ?_
            refine J_iload 139 dX6_takeOfComer_137 rfl rfl ?_
            refine J_iast (N := 6) (lo := 0) (hi := 9) 140 dX6_takeOfComer_139 rfl rfl rfl rfl ?_
            refine J_aload_n (i := 2) 141 dX6_takeOfComer_140 rfl rfl rfl ?_
            refine J_dup 142 dX6_takeOfComer_141 rfl rfl ?_
            refine J_getI (jz := 1) (lo := 0) (hi := 6) 145 dX6_takeOfComer_142 rfl fX6_33 rfl rfl rfl rfl (fun b24 b25 => ?_)
            try simp only [jup, jset, ↓reduceIte] at b24 b25 ⊢
            refine J_iconst 146 dX6_takeOfComer_145 rfl ?_
            refine J_iadd 147 dX6_takeOfComer_146 rfl ?_
            refine J_putI (jz := 1) (lo := 0) (hi := 6) 150 dX6_takeOfComer_147 rfl gX6_33 rfl rfl rfl rfl ?_
            refine J_goto 155 dX6_takeOfComer_150 rfl ?_
            refine J_iload_n (i := 0) 156 dX6_takeOfComer_155 rfl rfl rfl ?_
            refine J_iconst 157 dX6_takeOfComer_156 rfl ?_
            refine J_iadd 158 dX6_takeOfComer_157 rfl ?_
            refine J_iret dX6_takeOfComer_158 rfl ?_
            first
              | (exfalso; omega)
              | (rw [if_pos (by omega)]; exact good _ 2 (by omega) (by omega) rfl (by omega))
              | (rw [if_neg (by omega)]; first | exact good8 _ (by omega) rfl | exact good _ 3 (by omega) (by omega) rfl (by omega) | exact good _ 4 (by omega) (by omega) rfl (by omega) | exact good _ 5 (by omega) (by omega) rfl (by omega))
        · refine J_aload_n (i := 2) 41 dX6_takeOfComer_40 rfl rfl rfl ?_
          refine J_iload 43 dX6_takeOfComer_41 rfl rfl ?_
          refine J_callVi 46 dX6_takeOfComer_43 rfl kX6_53 mX7_hasGate rfl rfl rfl (c_X7_hasGate) (by first | decide | omega) rfl rfl (Nat.le_of_ble_eq_true rfl) (fun z27 s28 h26 => ?_)
          obtain ⟨rfl, rfl⟩ := h26
          refine J_bif_ne 51 49 dX6_takeOfComer_46 rfl rfl (fun c29 => ?_) (fun c29 => ?_)
          · refine J_iload_n (i := 0) 52 dX6_takeOfComer_51 rfl rfl rfl ?_
            rcases (show s = 4 ∨ s = 5 ∨ s = 6 ∨ s = 7 ∨ s = 8 by omega) with rfl | rfl | rfl | rfl | rfl
            · refine J_tableIn 88 dX6_takeOfComer_52 rfl rfl ?_
              refine J_aload_n (i := 2) 89 dX6_takeOfComer_88 rfl rfl rfl ?_
              refine J_getR 92 dX6_takeOfComer_89 rfl fX6_57 rfl rfl ?_
              refine J_iload_n (i := 3) 93 dX6_takeOfComer_92 rfl rfl rfl ?_
              refine J_iload 95 dX6_takeOfComer_93 rfl rfl ?_
              refine J_iast (N := 6) (lo := 0) (hi := 2) 96 dX6_takeOfComer_95 rfl rfl rfl rfl ?_
              refine J_goto 155 dX6_takeOfComer_96 rfl ?_
              refine J_iload_n (i := 0) 156 dX6_takeOfComer_155 rfl rfl rfl ?_
              refine J_iconst 157 dX6_takeOfComer_156 rfl ?_
              refine J_iadd 158 dX6_takeOfComer_157 rfl ?_
              refine J_iret dX6_takeOfComer_158 rfl ?_
              first
                | (exfalso; omega)
                | (rw [if_pos (by omega)]; exact good _ 2 (by omega) (by omega) rfl (by omega))
                | (rw [if_neg (by omega)]; first | exact good8 _ (by omega) rfl | exact good _ 3 (by omega) (by omega) rfl (by omega) | exact good _ 4 (by omega) (by omega) rfl (by omega) | exact good _ 5 (by omega) (by omega) rfl (by omega))
            · refine J_tableIn 99 dX6_takeOfComer_52 rfl rfl ?_
              refine J_aload_n (i := 2) 100 dX6_takeOfComer_99 rfl rfl rfl ?_
              refine J_getR 103 dX6_takeOfComer_100 rfl fX6_60 rfl rfl ?_
              refine J_iload_n (i := 3) 104 dX6_takeOfComer_103 rfl rfl rfl ?_
              refine J_iload 106 dX6_takeOfComer_104 rfl rfl ?_
              refine J_iast (N := 6) (lo := 0) (hi := 9) 107 dX6_takeOfComer_106 rfl rfl rfl rfl ?_
              refine J_goto 155 dX6_takeOfComer_107 rfl ?_
              refine J_iload_n (i := 0) 156 dX6_takeOfComer_155 rfl rfl rfl ?_
              refine J_iconst 157 dX6_takeOfComer_156 rfl ?_
              refine J_iadd 158 dX6_takeOfComer_157 rfl ?_
              refine J_iret dX6_takeOfComer_158 rfl ?_
              first
                | (exfalso; omega)
                | (rw [if_pos (by omega)]; exact good _ 2 (by omega) (by omega) rfl (by omega))
                | (rw [if_neg (by omega)]; first | exact good8 _ (by omega) rfl | exact good _ 3 (by omega) (by omega) rfl (by omega) | exact good _ 4 (by omega) (by omega) rfl (by omega) | exact good _ 5 (by omega) (by omega) rfl (by omega))
            · refine J_tableIn 110 dX6_takeOfComer_52 rfl rfl ?_
              refine J_aload_n (i := 2) 111 dX6_takeOfComer_110 rfl rfl rfl ?_
              refine J_getR 114 dX6_takeOfComer_111 rfl fX6_63 rfl rfl ?_
              refine J_iload_n (i := 3) 115 dX6_takeOfComer_114 rfl rfl rfl ?_
              refine J_iload 117 dX6_takeOfComer_115 rfl rfl ?_
              refine J_iast (N := 6) (lo := 0) (hi := 9) 118 dX6_takeOfComer_117 rfl rfl rfl rfl ?_
              refine J_goto 155 dX6_takeOfComer_118 rfl ?_
              refine J_iload_n (i := 0) 156 dX6_takeOfComer_155 rfl rfl rfl ?_
              refine J_iconst 157 dX6_takeOfComer_156 rfl ?_
              refine J_iadd 158 dX6_takeOfComer_157 rfl ?_
              refine J_iret dX6_takeOfComer_158 rfl ?_
              first
                | (exfalso; omega)
                | (rw [if_pos (by omega)]; exact good _ 2 (by omega) (by omega) rfl (by omega))
                | (rw [if_neg (by omega)]; first | exact good8 _ (by omega) rfl | exact good _ 3 (by omega) (by omega) rfl (by omega) | exact good _ 4 (by omega) (by omega) rfl (by omega) | exact good _ 5 (by omega) (by omega) rfl (by omega))
            · refine J_tableIn 121 dX6_takeOfComer_52 rfl rfl ?_
              refine J_aload_n (i := 2) 122 dX6_takeOfComer_121 rfl rfl rfl ?_
              refine J_getR 125 dX6_takeOfComer_122 rfl fX6_66 rfl rfl ?_
              refine J_iload_n (i := 3) 126 dX6_takeOfComer_125 rfl rfl rfl ?_
              refine J_iload 128 dX6_takeOfComer_126 rfl rfl ?_
              refine J_iast (N := 6) (lo := 0) (hi := 2) 129 dX6_takeOfComer_128 rfl rfl rfl rfl ?_
              refine J_goto 155 dX6_takeOfComer_129 rfl ?_
              refine J_iload_n (i := 0) 156 dX6_takeOfComer_155 rfl rfl rfl ?_
              refine J_iconst 157 dX6_takeOfComer_156 rfl ?_
              refine J_iadd 158 dX6_takeOfComer_157 rfl ?_
              refine J_iret dX6_takeOfComer_158 rfl ?_
              first
                | (exfalso; omega)
                | (rw [if_pos (by omega)]; exact good _ 2 (by omega) (by omega) rfl (by omega))
                | (rw [if_neg (by omega)]; first | exact good8 _ (by omega) rfl | exact good _ 3 (by omega) (by omega) rfl (by omega) | exact good _ 4 (by omega) (by omega) rfl (by omega) | exact good _ 5 (by omega) (by omega) rfl (by omega))
            · refine J_tableIn 132 dX6_takeOfComer_52 rfl rfl ?_
              refine J_aload_n (i := 2) 133 dX6_takeOfComer_132 rfl rfl rfl ?_
              refine J_getR 136 dX6_takeOfComer_133 rfl fX6_69 rfl rfl ?_
              refine J_iload_n (i := 3) 137 dX6_takeOfComer_136 rfl rfl rfl ?_
              refine J_iload 139 dX6_takeOfComer_137 rfl rfl ?_
              refine J_iast (N := 6) (lo := 0) (hi := 9) 140 dX6_takeOfComer_139 rfl rfl rfl rfl ?_
              refine J_aload_n (i := 2) 141 dX6_takeOfComer_140 rfl rfl rfl ?_
              refine J_dup 142 dX6_takeOfComer_141 rfl rfl ?_
              refine J_getI (jz := 1) (lo := 0) (hi := 6) 145 dX6_takeOfComer_142 rfl fX6_33 rfl rfl rfl rfl (fun b30 b31 => ?_)
              try simp only [jup, jset, ↓reduceIte] at b30 b31 ⊢
              refine J_iconst 146 dX6_takeOfComer_145 rfl ?_
              refine J_iadd 147 dX6_takeOfComer_146 rfl ?_
              refine J_putI (jz := 1) (lo := 0) (hi := 6) 150 dX6_takeOfComer_147 rfl gX6_33 rfl rfl rfl rfl ?_
              refine J_goto 155 dX6_takeOfComer_150 rfl ?_
              refine J_iload_n (i := 0) 156 dX6_takeOfComer_155 rfl rfl rfl ?_
              refine J_iconst 157 dX6_takeOfComer_156 rfl ?_
              refine J_iadd 158 dX6_takeOfComer_157 rfl ?_
              refine J_iret dX6_takeOfComer_158 rfl ?_
              first
                | (exfalso; omega)
                | (rw [if_pos (by omega)]; exact good _ 2 (by omega) (by omega) rfl (by omega))
                | (rw [if_neg (by omega)]; first | exact good8 _ (by omega) rfl | exact good _ 3 (by omega) (by omega) rfl (by omega) | exact good _ 4 (by omega) (by omega) rfl (by omega) | exact good _ 5 (by omega) (by omega) rfl (by omega))
          · refine J_iconst 50 dX6_takeOfComer_49 rfl ?_
            refine J_iret dX6_takeOfComer_50 rfl ?_
            first | (rw [if_pos (by omega)]; exact bad _ (by omega)) | (rw [if_neg (by omega)]; exact bad _ (by omega))
theorem c_X6_stepBehind (hs : 0 ≤ s ∧ s ≤ 9 := by omega) (hx : inR x := by omega) : Ct P 3 yX6_stepBehind cX6_stepBehind 3 (some .int) [vi s, vi x, vr P 8] σ (qi (rS σ (pS s x (vC σ 8)))) := by
  refine Ct.of _ rfl rfl rfl (Nat.le_of_ble_eq_true rfl) (fun hB => ?_)
  refine J_iload_n (i := 0) 1 dX6_stepBehind_0 rfl rfl rfl ?_
  rcases (show s = 0 ∨ s = 1 ∨ s = 2 ∨ s = 3 ∨ s = 4 ∨ s = 5 ∨ s = 6 ∨ s = 7 ∨ s = 8 ∨ s = 9 by omega) with rfl | rfl | rfl | rfl | rfl | rfl | rfl | rfl | rfl | rfl
  · refine J_tableIn 56 dX6_stepBehind_1 rfl rfl ?_
    refine J_iload_n (i := 1) 57 dX6_stepBehind_56 rfl rfl rfl ?_
    refine J_bipush 59 dX6_stepBehind_57 rfl (by decide) ?_
    refine J_icmp_ne 66 62 dX6_stepBehind_59 rfl rfl (fun c1 => ?_) (fun c1 => ?_)
    · refine J_iconst 67 dX6_stepBehind_66 rfl ?_
      refine J_iret dX6_stepBehind_67 rfl ?_
      refine rS_same ?_ rfl
      show (if x = 119 then (1 : Int) else -1) = _
      first | (rw [if_pos (by omega)]; done) | (rw [if_neg (by omega)]; done)
    · refine J_iconst 63 dX6_stepBehind_62 rfl ?_
      refine J_goto 67 dX6_stepBehind_63 rfl ?_
      refine J_iret dX6_stepBehind_67 rfl ?_
      refine rS_same ?_ rfl
      show (if x = 119 then (1 : Int) else -1) = _
      first | (rw [if_pos (by omega)]; done) | (rw [if_neg (by omega)]; done)
  · refine J_tableIn 68 dX6_stepBehind_1 rfl rfl ?_
    refine J_iload_n (i := 1) 69 dX6_stepBehind_68 rfl rfl rfl ?_
    refine J_bipush 71 dX6_stepBehind_69 rfl (by decide) ?_
    refine J_icmp_ne 78 74 dX6_stepBehind_71 rfl rfl (fun c2 => ?_) (fun c2 => ?_)
    · refine J_iconst 79 dX6_stepBehind_78 rfl ?_
      refine J_iret dX6_stepBehind_79 rfl ?_
      refine rS_same ?_ rfl
      show (if x = 44 then (2 : Int) else -1) = _
      first | (rw [if_pos (by omega)]; done) | (rw [if_neg (by omega)]; done)
    · refine J_iconst 75 dX6_stepBehind_74 rfl ?_
      refine J_goto 79 dX6_stepBehind_75 rfl ?_
      refine J_iret dX6_stepBehind_79 rfl ?_
      refine rS_same ?_ rfl
      show (if x = 44 then (2 : Int) else -1) = _
      first | (rw [if_pos (by omega)]; done) | (rw [if_neg (by omega)]; done)
  · refine J_tableIn 80 dX6_stepBehind_1 rfl rfl ?_
    refine J_iload_n (i := 1) 81 dX6_stepBehind_80 rfl rfl rfl ?_
    refine J_aload_n (i := 2) 82 dX6_stepBehind_81 rfl rfl rfl ?_
    refine J_callSi 85 dX6_stepBehind_82 rfl kX6_26 mX6_takeLoaves (c_X6_takeLoaves) (by first | decide | omega) rfl rfl (Nat.le_of_ble_eq_true rfl) (fun z4 s5 h3 => ?_)
    have hS := h3
    refine J_iret dX6_stepBehind_85 rfl ?_
    exact hS
  · refine J_tableIn 86 dX6_stepBehind_1 rfl rfl ?_
    refine J_iload_n (i := 1) 87 dX6_stepBehind_86 rfl rfl rfl ?_
    refine J_aload_n (i := 2) 88 dX6_stepBehind_87 rfl rfl rfl ?_
    refine J_callSi 91 dX6_stepBehind_88 rfl kX6_30 mX6_behindGate (c_X6_behindGate) (by first | decide | omega) rfl rfl (Nat.le_of_ble_eq_true rfl) (fun z7 s8 h6 => ?_)
    obtain ⟨rfl, rfl⟩ := h6
    refine J_iret dX6_stepBehind_91 rfl ?_
    exact rS_same rfl rfl
  · refine J_tableIn 113 dX6_stepBehind_1 rfl rfl ?_
    refine J_iload_n (i := 0) 114 dX6_stepBehind_113 rfl rfl rfl ?_
    refine J_iload_n (i := 1) 115 dX6_stepBehind_114 rfl rfl rfl ?_
    refine J_aload_n (i := 2) 116 dX6_stepBehind_115 rfl rfl rfl ?_
    refine J_callSi 119 dX6_stepBehind_116 rfl kX6_37 mX6_takeOfComer (c_X6_takeOfComer) (by first | decide | omega) rfl rfl (Nat.le_of_ble_eq_true rfl) (fun z10 s11 h9 => ?_)
    have hS := h9
    refine J_iret dX6_stepBehind_119 rfl ?_
    exact hS
  · refine J_tableIn 113 dX6_stepBehind_1 rfl rfl ?_
    refine J_iload_n (i := 0) 114 dX6_stepBehind_113 rfl rfl rfl ?_
    refine J_iload_n (i := 1) 115 dX6_stepBehind_114 rfl rfl rfl ?_
    refine J_aload_n (i := 2) 116 dX6_stepBehind_115 rfl rfl rfl ?_
    refine J_callSi 119 dX6_stepBehind_116 rfl kX6_37 mX6_takeOfComer (c_X6_takeOfComer) (by first | decide | omega) rfl rfl (Nat.le_of_ble_eq_true rfl) (fun z13 s14 h12 => ?_)
    have hS := h12
    refine J_iret dX6_stepBehind_119 rfl ?_
    exact hS
  · refine J_tableIn 113 dX6_stepBehind_1 rfl rfl ?_
    refine J_iload_n (i := 0) 114 dX6_stepBehind_113 rfl rfl rfl ?_
    refine J_iload_n (i := 1) 115 dX6_stepBehind_114 rfl rfl rfl ?_
    refine J_aload_n (i := 2) 116 dX6_stepBehind_115 rfl rfl rfl ?_
    refine J_callSi 119 dX6_stepBehind_116 rfl kX6_37 mX6_takeOfComer (c_X6_takeOfComer) (by first | decide | omega) rfl rfl (Nat.le_of_ble_eq_true rfl) (fun z16 s17 h15 => ?_)
    have hS := h15
    refine J_iret dX6_stepBehind_119 rfl ?_
    exact hS
  · refine J_tableIn 113 dX6_stepBehind_1 rfl rfl ?_
    refine J_iload_n (i := 0) 114 dX6_stepBehind_113 rfl rfl rfl ?_
    refine J_iload_n (i := 1) 115 dX6_stepBehind_114 rfl rfl rfl ?_
    refine J_aload_n (i := 2) 116 dX6_stepBehind_115 rfl rfl rfl ?_
    refine J_callSi 119 dX6_stepBehind_116 rfl kX6_37 mX6_takeOfComer (c_X6_takeOfComer) (by first | decide | omega) rfl rfl (Nat.le_of_ble_eq_true rfl) (fun z19 s20 h18 => ?_)
    have hS := h18
    refine J_iret dX6_stepBehind_119 rfl ?_
    exact hS
  · refine J_tableIn 113 dX6_stepBehind_1 rfl rfl ?_
    refine J_iload_n (i := 0) 114 dX6_stepBehind_113 rfl rfl rfl ?_
    refine J_iload_n (i := 1) 115 dX6_stepBehind_114 rfl rfl rfl ?_
    refine J_aload_n (i := 2) 116 dX6_stepBehind_115 rfl rfl rfl ?_
    refine J_callSi 119 dX6_stepBehind_116 rfl kX6_37 mX6_takeOfComer (c_X6_takeOfComer) (by first | decide | omega) rfl rfl (Nat.le_of_ble_eq_true rfl) (fun z22 s23 h21 => ?_)
    have hS := h21
    refine J_iret dX6_stepBehind_119 rfl ?_
    exact hS
  · refine J_tableIn 92 dX6_stepBehind_1 rfl rfl ?_
    refine J_iload_n (i := 1) 93 dX6_stepBehind_92 rfl rfl rfl ?_
    refine J_bipush 95 dX6_stepBehind_93 rfl (by decide) ?_
    refine J_icmp_ne 111 98 dX6_stepBehind_95 rfl rfl (fun c24 => ?_) (fun c24 => ?_)
    · refine J_iconst 112 dX6_stepBehind_111 rfl ?_
      refine J_iret dX6_stepBehind_112 rfl ?_
      refine rS_same ?_ rfl
      show (if x = 59 ∧ σ 8 1 < 6 then (4 : Int) else -1) = _
      first | (rw [if_pos (by omega)]; done) | (rw [if_neg (by omega)]; done)
    · refine J_aload_n (i := 2) 99 dX6_stepBehind_98 rfl rfl rfl ?_
      refine J_getI (jz := 1) (lo := 0) (hi := 6) 102 dX6_stepBehind_99 rfl fX6_33 rfl rfl rfl rfl (fun b25 b26 => ?_)
      refine J_bipush 104 dX6_stepBehind_102 rfl (by decide) ?_
      refine J_icmp_ge 111 107 dX6_stepBehind_104 rfl rfl (fun c27 => ?_) (fun c27 => ?_)
      · refine J_iconst 112 dX6_stepBehind_111 rfl ?_
        refine J_iret dX6_stepBehind_112 rfl ?_
        refine rS_same ?_ rfl
        show (if x = 59 ∧ σ 8 1 < 6 then (4 : Int) else -1) = _
        first | (rw [if_pos (by omega)]; done) | (rw [if_neg (by omega)]; done)
      · refine J_iconst 108 dX6_stepBehind_107 rfl ?_
        refine J_goto 112 dX6_stepBehind_108 rfl ?_
        refine J_iret dX6_stepBehind_112 rfl ?_
        refine rS_same ?_ rfl
        show (if x = 59 ∧ σ 8 1 < 6 then (4 : Int) else -1) = _
        first | (rw [if_pos (by omega)]; done) | (rw [if_neg (by omega)]; done)
theorem pE_b (f : Int → Int) (i : Int) (v : jS) : ∀ p : Nat, 0 ≤ (pE f i v p).2.1 ∧ (pE f i v p).2.1 ≤ 9 ∧ ((pE f i v p).1 = -1 ∨ (0 ≤ (pE f i v p).1 ∧ (pE f i v p).1 < p)) := by
  intro p
  induction p with
  | zero => simp [pE]
  | succ p ih =>
    simp only [pE]
    have h := pS_b (s := (pE f i v p).2.1) (x := f (i + p)) (v := (pE f i v p).2.2) ⟨ih.1, ih.2.1⟩
    split
    · refine ⟨ih.1, ih.2.1, ?_⟩
      rcases ih.2.2 with h1 | h1
      · exact Or.inl h1
      · exact Or.inr ⟨h1.1, by omega⟩
    · split
      · refine ⟨ih.1, ih.2.1, Or.inr ⟨?_, ?_⟩⟩
        · show (0 : Int) ≤ p; omega
        · show (p : Int) < _; omega
      · rename_i h1 h2
        exact ⟨by show 0 ≤ (pS _ _ _).1; omega, by show (pS _ _ _).1 ≤ 9; omega, Or.inl rfl⟩
theorem pE_stop {f : Int → Int} {i : Int} {v : jS} {p : Nat} (h : ¬ (pE f i v p).1 = -1) : ∀ n, p ≤ n → pE f i v n = pE f i v p := by
  intro n
  induction n with
  | zero => intro hn; rw [show p = 0 by omega]
  | succ n ih =>
    intro hn
    by_cases e : p = n + 1
    · rw [e]
    · have h2 := ih (by omega)
      simp only [pE]
      rw [h2, if_pos h]
def readQ (σ : jS) (f : Int → Int) (i : Int) (v : jS) (n : Nat) (z : Int) (σ' : jS) : Prop := readR f i v n = z ∧ ((pE f i v n).1 = -1 → vC σ' 8 = (pE f i v n).2.2) ∧ ∀ q, (q < 8 ∨ 14 < q) → σ' q = σ q
set_option maxHeartbeats 4000000 in
theorem l_X6_read (hw : w = 28 ∨ w = 30 ∨ w = 32 ∨ w = 34) {n : Nat} {i : Int} (hi : 0 ≤ i ∧ i + n ≤ 60) : ∀ (k p : Nat) (d s : Int) (τ : jS), p + k = n → d = p → s = (pE (σ (w + 1)) i v p).2.1 → (pE (σ (w + 1)) i v p).1 = -1 → vC τ 8 = (pE (σ (w + 1)) i v p).2.2 → (∀ q, (q < 8 ∨ 14 < q) → τ q = σ q) → J P 4 (RX6, cX6_read, 7, some .int) 11 [some (vr P 15), some (vr P w), some (vi i), some (vi (n : Int)), some (vr P 8), some (vi s), some (vi d)] [] τ (qi (readQ σ (σ (w + 1)) i v n)) := by
  intro k
  induction k with
  | zero =>
    intro p d s τ hp hd hs h1 h2 h3
    rw [Nat.add_zero] at hp
    subst hp
    have hpb := pE_b (σ (w + 1)) i v p
    have hR : readR (σ (w + 1)) i v p = if s = 9 then -9 else (p : Int) := by unfold readR; rw [if_neg (by omega), hs]
    rcases hw with rfl | rfl | rfl | rfl <;> (
      refine J_iload 13 dX6_read_11 rfl rfl ?_
      refine J_iload_n (i := 3) 14 dX6_read_13 rfl rfl rfl ?_
      refine J_icmp_ge 50 17 dX6_read_14 rfl rfl (fun c1 => ?_) (fun c1 => ?_)
      · refine J_iload 52 dX6_read_50 rfl rfl ?_
        refine J_bipush 54 dX6_read_52 rfl (by decide) ?_
        refine J_icmp_ne 62 57 dX6_read_54 rfl rfl (fun c2 => ?_) (fun c2 => ?_)
        · refine J_iload_n (i := 3) 63 dX6_read_62 rfl rfl rfl ?_
          refine J_iret dX6_read_63 rfl ?_
          refine ⟨?_, fun _ => h2, h3⟩
          rw [hR]
          first | exact if_pos (by omega) | exact if_neg (by omega)
        · refine J_bipush 59 dX6_read_57 rfl (by decide) ?_
          refine J_goto 63 dX6_read_59 rfl ?_
          refine J_iret dX6_read_63 rfl ?_
          refine ⟨?_, fun _ => h2, h3⟩
          rw [hR]
          first | exact if_pos (by omega) | exact if_neg (by omega)
      · exfalso; omega
    )
  | succ k ih =>
    intro p d s τ hp hd hs h1 h2 h3
    refine J.bd (fun hB => ?_)
    have hpb := pE_b (σ (w + 1)) i v p
    have hrow : τ (w + 1) = σ (w + 1) := h3 (w + 1) (by omega)
    have hcb : inR (τ (w + 1) (i + d)) := by
      rcases hw with rfl | rfl | rfl | rfl
      · exact hB 29 _
      · exact hB 31 _
      · exact hB 33 _
      · exact hB 35 _
    have hsb := pS_b (s := s) (x := τ (w + 1) (i + d)) (v := vC τ 8) (by omega)
    have hstep : pE (σ (w + 1)) i v (p + 1) = if (pS s (τ (w + 1) (i + d)) (vC τ 8)).1 = -1 then ((p : Int), (pE (σ (w + 1)) i v p).2.1, (pE (σ (w + 1)) i v p).2.2) else (-1, (pS s (τ (w + 1) (i + d)) (vC τ 8)).1, (pS s (τ (w + 1) (i + d)) (vC τ 8)).2) := by
      simp only [pE]
      rw [if_neg (by omega), hs, hrow, hd, h2]
    have hbad : (pS s (τ (w + 1) (i + d)) (vC τ 8)).1 = -1 → ∀ ρ : jS, (∀ q, (q < 8 ∨ 14 < q) → ρ q = τ q) → readQ σ (σ (w + 1)) i v n d ρ := by
      intro hm ρ hρ
      have hst2 := hstep
      rw [if_pos hm] at hst2
      have hne : ¬ (pE (σ (w + 1)) i v (p + 1)).1 = -1 := by rw [hst2]; show ¬ (p : Int) = -1; omega
      have hfin := pE_stop hne n (by omega)
      refine ⟨?_, fun hh => ?_, fun q hq => (hρ q hq).trans (h3 q hq)⟩
      · unfold readR
        rw [hfin, if_pos hne, hst2]
        exact hd.symm
      · exact absurd (hfin ▸ hh) hne
    rcases hw with rfl | rfl | rfl | rfl <;> (
      simp only [Nat.reduceAdd] at hrow hcb hsb hstep hbad
      refine J_iload 13 dX6_read_11 rfl rfl ?_
      refine J_iload_n (i := 3) 14 dX6_read_13 rfl rfl rfl ?_
      refine J_icmp_ge 50 17 dX6_read_14 rfl rfl (fun c1 => ?_) (fun c1 => ?_)
      · exfalso; omega
      · refine J_iload 19 dX6_read_17 rfl rfl ?_
        refine J_aload_n (i := 1) 20 dX6_read_19 rfl rfl rfl ?_
        refine J_getR 23 dX6_read_20 rfl fX6_16 rfl rfl ?_
        refine J_iload_n (i := 2) 24 dX6_read_23 rfl rfl rfl ?_
        refine J_iload 26 dX6_read_24 rfl rfl ?_
        refine J_iadd 27 dX6_read_26 rfl ?_
        refine J_iald (N := 60) (lo := (-2147483648)) (hi := 2147483647) 28 dX6_read_27 rfl rfl rfl rfl (fun b2 b3 => ?_)
        refine J_aload 30 dX6_read_28 rfl rfl ?_
        refine J_callSi 33 dX6_read_30 rfl kX6_22 mX6_stepBehind (c_X6_stepBehind) (by first | decide | omega) rfl rfl (Nat.le_of_ble_eq_true rfl) (fun z5 s6 h4 => ?_)
        obtain ⟨rfl, q2, q3⟩ := h4
        refine J_istore 35 dX6_read_33 rfl (by decide) ?_
        refine J_iload 37 dX6_read_35 rfl rfl ?_
        refine J_iconst 38 dX6_read_37 rfl ?_
        refine J_icmp_ne 44 41 dX6_read_38 rfl rfl (fun c7 => ?_) (fun c7 => ?_)
        · refine J_iinc 47 dX6_read_44 rfl (by decide) rfl ?_
          refine J_goto 11 dX6_read_47 rfl ?_
          rw [if_neg (by omega)] at hstep
          refine ih (p + 1) _ _ _ (by omega) (by omega) ?_ ?_ ?_ (fun q hq => (q3 q hq).trans (h3 q hq))
          · exact (congrArg (fun S => S.2.1) hstep).symm
          · exact congrArg (fun S => S.1) hstep
          · exact q2.trans (congrArg (fun S => S.2.2) hstep).symm
        · refine J_iload 43 dX6_read_41 rfl rfl ?_
          refine J_iret dX6_read_43 rfl ?_
          exact hbad (by omega) _ q3
    )
theorem c_X6_read (hw : w = 28 ∨ w = 30 ∨ w = 32 ∨ w = 34) {n : Nat} {i : Int} (hi : 0 ≤ i ∧ i + n ≤ 60) : Ct P 4 yX6_read cX6_read 7 (some .int) [vr P 15, vr P w, vi i, vi (n : Int), vr P 8] σ (qi (readQ σ (σ (w + 1)) i (beginV (vC σ 8)) n)) := by
  have hw' := hw
  have hv : vC (jup (jup (jup (jup σ 8 0 0) 8 1 0) 8 2 0) 8 3 1) 8 = beginV (vC σ 8) := by
    have e : ∀ (τ : jS) (j z : Int), vC (jup τ 8 j z) 8 = jup (vC τ 8) 0 j z := fun τ j z => vC_up τ 8 0 j z (by omega)
    rw [e, e, e, e]
    rfl
  have hf : ∀ q, (q < 8 ∨ 14 < q) → (jup (jup (jup (jup σ 8 0 0) 8 1 0) 8 2 0) 8 3 1) q = σ q := fun q hq => by funext j; unfold jup; rw [if_neg (by omega), if_neg (by omega), if_neg (by omega), if_neg (by omega)]
  have hrow := hf (w + 1) (by omega)
  have hmain := l_X6_read (P := P) (σ := jup (jup (jup (jup σ 8 0 0) 8 1 0) 8 2 0) 8 3 1) (v := beginV (vC σ 8)) hw' hi n 0 0 0 _ (Nat.zero_add _) rfl rfl rfl hv (fun _ _ => rfl)
  rw [hrow] at hmain
  have hmain2 := J.post hmain (Q' := qi (readQ σ (σ (w + 1)) i (beginV (vC σ 8)) n)) (fun r σ1 hq => by
    obtain ⟨z, hr, h1, h2, h3⟩ := hq
    exact ⟨z, hr, h1, h2, fun q hq => (h3 q hq).trans (hf q hq)⟩)
  rcases hw with rfl | rfl | rfl | rfl <;> (
    refine Ct.of _ rfl rfl rfl (Nat.le_of_ble_eq_true rfl) (fun hB => ?_)
    refine J_aload 2 dX6_read_0 rfl rfl ?_
    refine J_callVv 5 dX6_read_2 rfl kX6_9 mX7_begin rfl rfl rfl (c_X7_begin) (by first | decide | omega) rfl rfl (Nat.le_of_ble_eq_true rfl) (fun s3 h1 => ?_)
    obtain rfl := h1
    refine J_iconst 6 dX6_read_5 rfl ?_
    refine J_istore 8 dX6_read_6 rfl (by decide) ?_
    refine J_iconst 9 dX6_read_8 rfl ?_
    refine J_istore 11 dX6_read_9 rfl (by decide) ?_
    exact hmain2
  )
end

