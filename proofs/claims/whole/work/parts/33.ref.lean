/-! ===== the reference: its small methods, who is ahead, what is given ===== -/
theorem vR00 (σ : jS) : vR σ 0 0 = σ 36 1 := rfl
theorem vR01 (σ : jS) : vR σ 0 1 = σ 36 2 := rfl
theorem vR02 (σ : jS) : vR σ 0 2 = σ 36 3 := rfl
theorem vR03 (σ : jS) : vR σ 0 3 = σ 36 4 := rfl
theorem vR1 (σ : jS) (j : Int) : vR σ 1 j = σ 37 j := rfl
theorem vR2 (σ : jS) (j : Int) : vR σ 2 j = σ 38 j := rfl
theorem vR3 (σ : jS) (j : Int) : vR σ 3 j = σ 39 j := rfl
theorem vR4 (σ : jS) (j : Int) : vR σ 4 j = σ 40 j := rfl
theorem vR5 (σ : jS) (j : Int) : vR σ 5 j = σ 41 j := rfl
theorem vR6 (σ : jS) (j : Int) : vR σ 6 j = σ 42 j := rfl
theorem vR_congr {σ τ : jS} (h0 : ∀ j, 0 ≤ j ∧ j ≤ 3 → τ 36 (j + 1) = σ 36 (j + 1)) (h : ∀ q, 37 ≤ q ∧ q ≤ 42 → τ q = σ q) : vR τ = vR σ := by
  funext i j
  unfold vR
  split
  · split
    · exact h0 j (by assumption)
    · rfl
  · split
    · rw [h (36 + i) (by omega)]
    · rfl
theorem setN_congr {f g : Int → Bool} : ∀ n : Nat, (∀ c : Int, 0 ≤ c → c < n → f c = g c) → setN f n = setN g n := by
  intro n
  induction n with
  | zero => intro _; rfl
  | succ n ih =>
    intro h
    simp only [setN]
    rw [ih (fun c h1 h2 => h c h1 (by omega)), h n (by omega) (by omega)]
theorem ior_0 {a : Int} (h : 0 ≤ a) : ior a 0 = a := by
  unfold ior
  have : (0 : Int).toNat = 0 := rfl
  rw [this, Nat.or_zero]
  omega
theorem pop_half : ∀ n : Fin 64, popM (n.val : Int) = iand (n.val : Int) 1 + popM (((n.val / 2 : Nat)) : Int) := by decide +kernel
theorem popM_0 : popM 0 = 0 := by decide
def euN : Nat → Int → Int → Int
  | 0, x, _ => x
  | k + 1, x, y => if y = 0 then x else euN k y (x % y)
theorem eu_key : ∀ n : Fin 31, euN 40 (n.val : Int) 30 = gdN (n.val : Int) 30 30 := by decide +kernel
section
variable {P : jP} {w o : Nat} {a b c d g x y z n s i j k l : Int} {σ τ v : jS}
theorem c_X9_in (hx : inL x := by omega) (hy : inL y := by omega) (hz : inL z := by omega) : Ct P 1 yX9_in cX9_in 6 (some .boolean) [vl x, vl y, vl z] σ (rI (b01 (y ≤ x ∧ x ≤ z)) σ) := by
  have e1 : ∀ a b : Int, (if b < a then (1 : Int) else if a = b then 0 else -1) < 0 ↔ a < b := fun a b => by split <;> (try split) <;> omega
  have e2 : ∀ a b : Int, 0 < (if b < a then (1 : Int) else if a = b then 0 else -1) ↔ b < a := fun a b => by split <;> (try split) <;> omega
  have e3 : ∀ a b : Int, inR (if b < a then (1 : Int) else if a = b then 0 else -1) := fun a b => by split <;> (try split) <;> omega
  have f1 := e1 x y
  have f2 := e3 x y
  have f3 := e2 x z
  have f4 := e3 x z
  refine Ct.of _ rfl rfl rfl (Nat.le_of_ble_eq_true rfl) (fun hB => ?_)
  refine J_lload_n (i := 0) 1 dX9_in_0 rfl rfl rfl ?_
  refine J_lload_n (i := 2) 2 dX9_in_1 rfl rfl rfl ?_
  refine J_lcmp 3 dX9_in_2 rfl ?_
  refine J_if_lt 17 6 dX9_in_3 rfl rfl (fun c1 => ?_) (fun c1 => ?_)
  · refine J_iconst 18 dX9_in_17 rfl ?_
    refine J_zret dX9_in_18 rfl ?_
    first | exact ⟨rfl, rfl⟩ | exact rfl | exact ⟨b01_t (by omega), rfl⟩ | exact ⟨b01_f (by omega), rfl⟩ | exact ⟨by omega, rfl⟩
  · refine J_lload_n (i := 0) 7 dX9_in_6 rfl rfl rfl ?_
    refine J_lload 9 dX9_in_7 rfl rfl ?_
    refine J_lcmp 10 dX9_in_9 rfl ?_
    refine J_if_gt 17 13 dX9_in_10 rfl rfl (fun c2 => ?_) (fun c2 => ?_)
    · refine J_iconst 18 dX9_in_17 rfl ?_
      refine J_zret dX9_in_18 rfl ?_
      first | exact ⟨rfl, rfl⟩ | exact rfl | exact ⟨b01_t (by omega), rfl⟩ | exact ⟨b01_f (by omega), rfl⟩ | exact ⟨by omega, rfl⟩
    · refine J_iconst 14 dX9_in_13 rfl ?_
      refine J_goto 18 dX9_in_14 rfl ?_
      refine J_zret dX9_in_18 rfl ?_
      first | exact ⟨rfl, rfl⟩ | exact rfl | exact ⟨b01_t (by omega), rfl⟩ | exact ⟨b01_f (by omega), rfl⟩ | exact ⟨by omega, rfl⟩
theorem c_X9_lost : Ct P 1 yX9_lost cX9_lost 0 (some .long) [] σ (rL (-9223372036854775808) σ) := by
  refine Ct.of _ rfl rfl rfl (Nat.le_of_ble_eq_true rfl) (fun hB => ?_)
  refine J_ldc2 3 dX9_lost_0 rfl cstX9_94 ?_
  refine J_lret dX9_lost_3 rfl ?_
  first | exact ⟨rfl, rfl⟩ | exact rfl | exact ⟨b01_t (by omega), rfl⟩ | exact ⟨b01_f (by omega), rfl⟩ | exact ⟨by omega, rfl⟩
set_option maxHeartbeats 4000000 in
theorem l_X9_bits : ∀ (k : Nat) (n s : Int), 0 ≤ s → s < 2 ^ k → k ≤ 6 → 0 ≤ n ∧ n ≤ 6 - k → J P 1 (RX9, cX9_bits, 3, some .int) 4 [some (vi x), some (vi n), some (vi s)] [] σ (rI (n + popM s) σ) := by
  intro k
  induction k with
  | zero =>
    intro n s h0 h1 hk hn
    have hs : s = 0 := by omega
    subst hs
    refine J_iload_n (i := 2) 5 dX9_bits_4 rfl rfl rfl ?_
    refine J_if_le 21 8 dX9_bits_5 rfl rfl (fun c1 => ?_) (fun c1 => ?_)
    · refine J_iload_n (i := 1) 22 dX9_bits_21 rfl rfl rfl ?_
      refine J_iret dX9_bits_22 rfl ?_
      exact ⟨by rw [popM_0]; omega, rfl⟩
    · exfalso; omega
  | succ k ih =>
    intro n s h0 h1 hk hn
    have hp := pow_64 (n := k + 1) (by omega)
    have e2 : (2 : Int) ^ (k + 1) = 2 ^ k * 2 := Int.pow_succ 2 k
    have hdv := sh_b (a := s.toNat) 1 (by omega)
    have hbb := bit_b s.toNat
    rw [show ((s.toNat : Nat) : Int) = s by omega] at hbb
    have hh := pop_half ⟨s.toNat, by omega⟩
    simp only [show ((s.toNat : Nat) : Int) = s by omega] at hh
    have e3 : ((s.toNat / 2 ^ (1 : Int).toNat : Nat) : Int) = ((s.toNat / 2 : Nat) : Int) := rfl
    have hpop := ih (n + iand s 1) ((s.toNat / 2 ^ (1 : Int).toNat : Nat) : Int) (by omega) (by rw [e3]; omega) (by omega) (by omega)
    have e4 : n + iand s 1 + popM ((s.toNat / 2 ^ (1 : Int).toNat : Nat) : Int) = n + popM s := by rw [e3, hh]; omega
    rw [e4] at hpop
    refine J_iload_n (i := 2) 5 dX9_bits_4 rfl rfl rfl ?_
    refine J_if_le 21 8 dX9_bits_5 rfl rfl (fun c1 => ?_) (fun c1 => ?_)
    · refine J_iload_n (i := 1) 22 dX9_bits_21 rfl rfl rfl ?_
      refine J_iret dX9_bits_22 rfl ?_
      have hs : s = 0 := by omega
      subst hs
      exact ⟨by rw [popM_0]; omega, rfl⟩
    · refine J_iload_n (i := 1) 9 dX9_bits_8 rfl rfl rfl ?_
      refine J_iload_n (i := 2) 10 dX9_bits_9 rfl rfl rfl ?_
      refine J_iconst 11 dX9_bits_10 rfl ?_
      refine J_iand 12 dX9_bits_11 rfl ?_
      refine J_iadd 13 dX9_bits_12 rfl ?_
      refine J_istore_n (i := 1) 14 dX9_bits_13 rfl rfl (by decide) ?_
      refine J_iload_n (i := 2) 15 dX9_bits_14 rfl rfl rfl ?_
      refine J_iconst 16 dX9_bits_15 rfl ?_
      refine J_ishr 17 dX9_bits_16 rfl ?_
      refine J_istore_n (i := 2) 18 dX9_bits_17 rfl rfl (by decide) ?_
      refine J_goto 4 dX9_bits_18 rfl ?_
      exact hpop
theorem c_X9_bits (hx : 0 ≤ x ∧ x ≤ 63 := by omega) : Ct P 1 yX9_bits cX9_bits 3 (some .int) [vi x] σ (rI (popM x) σ) := by
  have hmain := l_X9_bits (P := P) (σ := σ) (x := x) 6 0 x (by omega) (by omega) (by omega) (by omega)
  rw [Int.zero_add] at hmain
  refine Ct.of _ rfl rfl rfl (Nat.le_of_ble_eq_true rfl) (fun hB => ?_)
  refine J_iconst 1 dX9_bits_0 rfl ?_
  refine J_istore_n (i := 1) 2 dX9_bits_1 rfl rfl (by decide) ?_
  refine J_iload_n (i := 0) 3 dX9_bits_2 rfl rfl rfl ?_
  refine J_istore_n (i := 2) 4 dX9_bits_3 rfl rfl (by decide) ?_
  exact hmain
theorem c_X9_refused (hx : inR x := by omega) : Ct P 1 yX9_refused cX9_refused 2 (some .int) [vr P 36, vi x] σ (rI x (jup σ 36 0 0)) := by
  refine Ct.of _ rfl rfl rfl (Nat.le_of_ble_eq_true rfl) (fun hB => ?_)
  refine J_aload_n (i := 0) 1 dX9_refused_0 rfl rfl rfl ?_
  refine J_iconst 2 dX9_refused_1 rfl ?_
  refine J_putI (jz := 0) (lo := 0) (hi := 4) 5 dX9_refused_2 rfl gX9_96 rfl rfl rfl rfl ?_
  refine J_iload_n (i := 1) 6 dX9_refused_5 rfl rfl rfl ?_
  refine J_iret dX9_refused_6 rfl ?_
  first | exact ⟨rfl, rfl⟩ | exact rfl | exact ⟨b01_t (by omega), rfl⟩ | exact ⟨b01_f (by omega), rfl⟩ | exact ⟨by omega, rfl⟩
theorem c_X9_failed (hx : 0 ≤ x ∧ x ≤ 4 := by omega) : Ct P 1 yX9_failed cX9_failed 2 (some .int) [vr P 36, vi x] σ (rI (-10 - x) (jup σ 36 0 x)) := by
  refine Ct.of _ rfl rfl rfl (Nat.le_of_ble_eq_true rfl) (fun hB => ?_)
  refine J_aload_n (i := 0) 1 dX9_failed_0 rfl rfl rfl ?_
  refine J_iload_n (i := 1) 2 dX9_failed_1 rfl rfl rfl ?_
  refine J_putI (jz := 0) (lo := 0) (hi := 4) 5 dX9_failed_2 rfl gX9_96 rfl rfl rfl rfl ?_
  refine J_bipush 7 dX9_failed_5 rfl (by decide) ?_
  refine J_iload_n (i := 1) 8 dX9_failed_7 rfl rfl rfl ?_
  refine J_isub 9 dX9_failed_8 rfl ?_
  refine J_iret dX9_failed_9 rfl ?_
  first | exact ⟨rfl, rfl⟩ | exact rfl | exact ⟨b01_t (by omega), rfl⟩ | exact ⟨b01_f (by omega), rfl⟩ | exact ⟨by omega, rfl⟩
theorem c_X9_failedLong (hx : 0 ≤ x ∧ x ≤ 4 := by omega) : Ct P 2 yX9_failedLong cX9_failedLong 2 (some .long) [vr P 36, vi x] σ (rL (-9223372036854775808) (jup σ 36 0 x)) := by
  refine Ct.of _ rfl rfl rfl (Nat.le_of_ble_eq_true rfl) (fun hB => ?_)
  refine J_aload_n (i := 0) 1 dX9_failedLong_0 rfl rfl rfl ?_
  refine J_iload_n (i := 1) 2 dX9_failedLong_1 rfl rfl rfl ?_
  refine J_putI (jz := 0) (lo := 0) (hi := 4) 5 dX9_failedLong_2 rfl gX9_96 rfl rfl rfl rfl ?_
  refine J_callSl 8 dX9_failedLong_5 rfl kX9_100 mX9_lost (c_X9_lost) (by first | decide | omega) rfl rfl (Nat.le_of_ble_eq_true rfl) (fun z2 s3 h1 => ?_)
  obtain ⟨rfl, rfl⟩ := h1
  refine J_lret dX9_failedLong_8 rfl ?_
  first | exact ⟨rfl, rfl⟩ | exact rfl | exact ⟨b01_t (by omega), rfl⟩ | exact ⟨b01_f (by omega), rfl⟩ | exact ⟨by omega, rfl⟩
theorem c_X9_noComer (hc : inR c := by omega) : Ct P 2 yX9_noComer cX9_noComer 2 (some .boolean) [vr P 36, vi c] σ (rI (b01 (¬ (0 ≤ c ∧ c < σ 36 2))) σ) := by
  refine Ct.of _ rfl rfl rfl (Nat.le_of_ble_eq_true rfl) (fun hB => ?_)
  refine J_iload_n (i := 1) 1 dX9_noComer_0 rfl rfl rfl ?_
  refine J_i2l 2 dX9_noComer_1 rfl ?_
  refine J_lconst (z := 0) 3 dX9_noComer_2 rfl rfl ?_
  refine J_aload_n (i := 0) 4 dX9_noComer_3 rfl rfl rfl ?_
  refine J_getI (jz := 2) (lo := 0) (hi := 6) 7 dX9_noComer_4 rfl fX9_104 rfl rfl rfl rfl (fun b1 b2 => ?_)
  refine J_i2l 8 dX9_noComer_7 rfl ?_
  refine J_lconst (z := 1) 9 dX9_noComer_8 rfl rfl ?_
  refine J_lsub 10 dX9_noComer_9 rfl ?_
  refine J_callSi 13 dX9_noComer_10 rfl kX9_107 mX9_in (c_X9_in) (by first | decide | omega) rfl rfl (Nat.le_of_ble_eq_true rfl) (fun z4 s5 h3 => ?_)
  obtain ⟨rfl, rfl⟩ := h3
  refine J_bif_ne 20 16 dX9_noComer_13 rfl rfl (fun c6 => ?_) (fun c6 => ?_)
  · refine J_iconst 21 dX9_noComer_20 rfl ?_
    refine J_zret dX9_noComer_21 rfl ?_
    first | exact ⟨rfl, rfl⟩ | exact rfl | exact ⟨b01_t (by omega), rfl⟩ | exact ⟨b01_f (by omega), rfl⟩ | exact ⟨by omega, rfl⟩
  · refine J_iconst 17 dX9_noComer_16 rfl ?_
    refine J_goto 21 dX9_noComer_17 rfl ?_
    refine J_zret dX9_noComer_21 rfl ?_
    first | exact ⟨rfl, rfl⟩ | exact rfl | exact ⟨b01_t (by omega), rfl⟩ | exact ⟨b01_f (by omega), rfl⟩ | exact ⟨by omega, rfl⟩
theorem c_X9_noGate (hc : inR c := by omega) : Ct P 2 yX9_noGate cX9_noGate 2 (some .boolean) [vr P 36, vi c] σ (rI (b01 (¬ (0 ≤ c ∧ c < σ 36 1))) σ) := by
  refine Ct.of _ rfl rfl rfl (Nat.le_of_ble_eq_true rfl) (fun hB => ?_)
  refine J_iload_n (i := 1) 1 dX9_noGate_0 rfl rfl rfl ?_
  refine J_i2l 2 dX9_noGate_1 rfl ?_
  refine J_lconst (z := 0) 3 dX9_noGate_2 rfl rfl ?_
  refine J_aload_n (i := 0) 4 dX9_noGate_3 rfl rfl rfl ?_
  refine J_getI (jz := 1) (lo := 0) (hi := 3) 7 dX9_noGate_4 rfl fX9_111 rfl rfl rfl rfl (fun b1 b2 => ?_)
  refine J_i2l 8 dX9_noGate_7 rfl ?_
  refine J_lconst (z := 1) 9 dX9_noGate_8 rfl rfl ?_
  refine J_lsub 10 dX9_noGate_9 rfl ?_
  refine J_callSi 13 dX9_noGate_10 rfl kX9_107 mX9_in (c_X9_in) (by first | decide | omega) rfl rfl (Nat.le_of_ble_eq_true rfl) (fun z4 s5 h3 => ?_)
  obtain ⟨rfl, rfl⟩ := h3
  refine J_bif_ne 20 16 dX9_noGate_13 rfl rfl (fun c6 => ?_) (fun c6 => ?_)
  · refine J_iconst 21 dX9_noGate_20 rfl ?_
    refine J_zret dX9_noGate_21 rfl ?_
    first | exact ⟨rfl, rfl⟩ | exact rfl | exact ⟨b01_t (by omega), rfl⟩ | exact ⟨b01_f (by omega), rfl⟩ | exact ⟨by omega, rfl⟩
  · refine J_iconst 17 dX9_noGate_16 rfl ?_
    refine J_goto 21 dX9_noGate_17 rfl ?_
    refine J_zret dX9_noGate_21 rfl ?_
    first | exact ⟨rfl, rfl⟩ | exact rfl | exact ⟨b01_t (by omega), rfl⟩ | exact ⟨b01_f (by omega), rfl⟩ | exact ⟨by omega, rfl⟩
theorem c_X9_isFigure (hx : inR x := by omega) : Ct P 2 yX9_isFigure cX9_isFigure 1 (some .boolean) [vi x] σ (rI (b01 (0 ≤ x ∧ x ≤ 9)) σ) := by
  refine Ct.of _ rfl rfl rfl (Nat.le_of_ble_eq_true rfl) (fun hB => ?_)
  refine J_iload_n (i := 0) 1 dX9_isFigure_0 rfl rfl rfl ?_
  refine J_i2l 2 dX9_isFigure_1 rfl ?_
  refine J_lconst (z := 0) 3 dX9_isFigure_2 rfl rfl ?_
  refine J_ldc2 6 dX9_isFigure_3 rfl cstX9_196 ?_
  refine J_callSi 9 dX9_isFigure_6 rfl kX9_107 mX9_in (c_X9_in) (by first | decide | omega) rfl rfl (Nat.le_of_ble_eq_true rfl) (fun z2 s3 h1 => ?_)
  obtain ⟨rfl, rfl⟩ := h1
  refine J_zret dX9_isFigure_9 rfl ?_
  first | exact ⟨rfl, rfl⟩ | exact rfl | exact ⟨b01_t (by omega), rfl⟩ | exact ⟨b01_f (by omega), rfl⟩ | exact ⟨by omega, rfl⟩
theorem c_X9_look (hc : 0 ≤ c ∧ c < 6 := by omega) : Ct P 1 yX9_look cX9_look 3 (some .int) [vr P 36, vi c] σ (rI (lookM (vR σ) c) σ) := by
  have e : lookM (vR σ) c = if σ 38 c = 0 then σ 40 c else if σ 38 c = 1 then σ 40 c + σ 36 4 else σ 40 c + σ 36 4 + σ 40 c := rfl
  rw [e]
  refine Ct.of _ rfl rfl rfl (Nat.le_of_ble_eq_true rfl) (fun hB => ?_)
  refine J_aload_n (i := 0) 1 dX9_look_0 rfl rfl rfl ?_
  refine J_getR 4 dX9_look_1 rfl fX9_13 rfl rfl ?_
  refine J_iload_n (i := 1) 5 dX9_look_4 rfl rfl rfl ?_
  refine J_iald (N := 6) (lo := 0) (hi := 2) 6 dX9_look_5 rfl rfl rfl rfl (fun b1 b2 => ?_)
  refine J_istore_n (i := 2) 7 dX9_look_6 rfl rfl (by decide) ?_
  refine J_iload_n (i := 2) 8 dX9_look_7 rfl rfl rfl ?_
  refine J_if_ne 20 11 dX9_look_8 rfl rfl (fun c3 => ?_) (fun c3 => ?_)
  · refine J_iload_n (i := 2) 21 dX9_look_20 rfl rfl rfl ?_
    refine J_iconst 22 dX9_look_21 rfl ?_
    refine J_icmp_ne 39 25 dX9_look_22 rfl rfl (fun c4 => ?_) (fun c4 => ?_)
    · refine J_iconst 40 dX9_look_39 rfl ?_
      refine J_aload_n (i := 0) 41 dX9_look_40 rfl rfl rfl ?_
      refine J_getR 44 dX9_look_41 rfl fX9_19 rfl rfl ?_
      refine J_iload_n (i := 1) 45 dX9_look_44 rfl rfl rfl ?_
      refine J_iald (N := 6) (lo := 0) (hi := 9) 46 dX9_look_45 rfl rfl rfl rfl (fun b5 b6 => ?_)
      refine J_imul 47 dX9_look_46 rfl ?_
      refine J_aload_n (i := 0) 48 dX9_look_47 rfl rfl rfl ?_
      refine J_getI (jz := 4) (lo := 0) (hi := 9) 51 dX9_look_48 rfl fX9_165 rfl rfl rfl rfl (fun b7 b8 => ?_)
      refine J_iadd 52 dX9_look_51 rfl ?_
      refine J_iret dX9_look_52 rfl ?_
      refine ⟨?_, rfl⟩
      first | (rw [if_pos (by omega)]; done) | (rw [if_neg (by omega), if_pos (by omega)]; done) | (rw [if_neg (by omega), if_neg (by omega)]; omega)
    · refine J_aload_n (i := 0) 26 dX9_look_25 rfl rfl rfl ?_
      refine J_getR 29 dX9_look_26 rfl fX9_19 rfl rfl ?_
      refine J_iload_n (i := 1) 30 dX9_look_29 rfl rfl rfl ?_
      refine J_iald (N := 6) (lo := 0) (hi := 9) 31 dX9_look_30 rfl rfl rfl rfl (fun b9 b10 => ?_)
      refine J_aload_n (i := 0) 32 dX9_look_31 rfl rfl rfl ?_
      refine J_getI (jz := 4) (lo := 0) (hi := 9) 35 dX9_look_32 rfl fX9_165 rfl rfl rfl rfl (fun b11 b12 => ?_)
      refine J_iadd 36 dX9_look_35 rfl ?_
      refine J_goto 52 dX9_look_36 rfl ?_
      refine J_iret dX9_look_52 rfl ?_
      refine ⟨?_, rfl⟩
      first | (rw [if_pos (by omega)]; done) | (rw [if_neg (by omega), if_pos (by omega)]; done) | (rw [if_neg (by omega), if_neg (by omega)]; omega)
  · refine J_aload_n (i := 0) 12 dX9_look_11 rfl rfl rfl ?_
    refine J_getR 15 dX9_look_12 rfl fX9_19 rfl rfl ?_
    refine J_iload_n (i := 1) 16 dX9_look_15 rfl rfl rfl ?_
    refine J_iald (N := 6) (lo := 0) (hi := 9) 17 dX9_look_16 rfl rfl rfl rfl (fun b13 b14 => ?_)
    refine J_goto 52 dX9_look_17 rfl ?_
    refine J_iret dX9_look_52 rfl ?_
    refine ⟨?_, rfl⟩
    first | (rw [if_pos (by omega)]; done) | (rw [if_neg (by omega), if_pos (by omega)]; done) | (rw [if_neg (by omega), if_neg (by omega)]; omega)
set_option maxHeartbeats 8000000 in
theorem c_X9_isAhead (hc : 0 ≤ c ∧ c < 6 := by omega) (hx : 0 ≤ x ∧ x < 6 := by omega) (hcx : ¬ c = x := by omega) : Ct P 2 yX9_isAhead cX9_isAhead 5 (some .boolean) [vr P 36, vi c, vi x] σ (rI (b01 (rankM (vR σ) x < rankM (vR σ) c)) σ) := by
  refine Ct.bd (fun hB => ?_)
  have hvB := vR_B hB
  have hl1 := lookM_b hvB c
  have hl2 := lookM_b hvB x
  have e0 : ∀ q : Int, σ 36 3 = 0 → rankM (vR σ) q = 100 * lookM (vR σ) q - 10 * σ 42 q - q := fun q h => by
    unfold rankM
    rw [vR02, if_pos h]
    rfl
  have e1 : ∀ q : Int, σ 36 3 = 1 → rankM (vR σ) q = 100 * σ 39 q - 10 * σ 42 q - q := fun q h => by
    unfold rankM
    rw [vR02, if_neg (by omega), if_pos h]
    rfl
  have e2 : ∀ q : Int, ¬ σ 36 3 = 0 → ¬ σ 36 3 = 1 → rankM (vR σ) q = 100 * 0 - 10 * σ 42 q - q := fun q h h2 => by
    unfold rankM
    rw [vR02, if_neg h, if_neg h2]
    rfl
  have g0 := e0 c
  have g0x := e0 x
  have g1 := e1 c
  have g1x := e1 x
  have g2 := e2 c
  have g2x := e2 x
  have hb1 : 0 ≤ σ 42 c ∧ σ 42 c ≤ 9 := hB 42 c
  have hb2 : 0 ≤ σ 42 x ∧ σ 42 x ≤ 9 := hB 42 x
  clear hvB e0 e1 e2
  refine Ct.of _ rfl rfl rfl (Nat.le_of_ble_eq_true rfl) (fun hB => ?_)
  refine J_aload_n (i := 0) 1 dX9_isAhead_0 rfl rfl rfl ?_
  refine J_getI (jz := 3) (lo := 0) (hi := 2) 4 dX9_isAhead_1 rfl fX9_162 rfl rfl rfl rfl (fun b1 b2 => ?_)
  refine J_if_ne 16 7 dX9_isAhead_4 rfl rfl (fun c3 => ?_) (fun c3 => ?_)
  · refine J_aload_n (i := 0) 17 dX9_isAhead_16 rfl rfl rfl ?_
    refine J_getI (jz := 3) (lo := 0) (hi := 2) 20 dX9_isAhead_17 rfl fX9_162 rfl rfl rfl rfl (fun b4 b5 => ?_)
    refine J_iconst 21 dX9_isAhead_20 rfl ?_
    refine J_icmp_ne 34 24 dX9_isAhead_21 rfl rfl (fun c6 => ?_) (fun c6 => ?_)
    · refine J_aload_n (i := 0) 35 dX9_isAhead_34 rfl rfl rfl ?_
      refine J_getR 38 dX9_isAhead_35 rfl fX9_25 rfl rfl ?_
      refine J_iload_n (i := 1) 39 dX9_isAhead_38 rfl rfl rfl ?_
      refine J_iald (N := 6) (lo := 0) (hi := 9) 40 dX9_isAhead_39 rfl rfl rfl rfl (fun b7 b8 => ?_)
      refine J_istore_n (i := 3) 41 dX9_isAhead_40 rfl rfl (by decide) ?_
      refine J_aload_n (i := 0) 42 dX9_isAhead_41 rfl rfl rfl ?_
      refine J_getI (jz := 3) (lo := 0) (hi := 2) 45 dX9_isAhead_42 rfl fX9_162 rfl rfl rfl rfl (fun b9 b10 => ?_)
      refine J_if_ne 57 48 dX9_isAhead_45 rfl rfl (fun c11 => ?_) (fun c11 => ?_)
      · refine J_aload_n (i := 0) 58 dX9_isAhead_57 rfl rfl rfl ?_
        refine J_getI (jz := 3) (lo := 0) (hi := 2) 61 dX9_isAhead_58 rfl fX9_162 rfl rfl rfl rfl (fun b12 b13 => ?_)
        refine J_iconst 62 dX9_isAhead_61 rfl ?_
        refine J_icmp_ne 75 65 dX9_isAhead_62 rfl rfl (fun c14 => ?_) (fun c14 => ?_)
        · refine J_aload_n (i := 0) 76 dX9_isAhead_75 rfl rfl rfl ?_
          refine J_getR 79 dX9_isAhead_76 rfl fX9_25 rfl rfl ?_
          refine J_iload_n (i := 2) 80 dX9_isAhead_79 rfl rfl rfl ?_
          refine J_iald (N := 6) (lo := 0) (hi := 9) 81 dX9_isAhead_80 rfl rfl rfl rfl (fun b15 b16 => ?_)
          refine J_istore 83 dX9_isAhead_81 rfl (by decide) ?_
          refine J_iload_n (i := 3) 84 dX9_isAhead_83 rfl rfl rfl ?_
          refine J_iload 86 dX9_isAhead_84 rfl rfl ?_
          refine J_icmp_eq 103 89 dX9_isAhead_86 rfl rfl (fun c17 => ?_) (fun c17 => ?_)
          · refine J_aload_n (i := 0) 104 dX9_isAhead_103 rfl rfl rfl ?_
            refine J_getR 107 dX9_isAhead_104 rfl fX9_25 rfl rfl ?_
            refine J_iload_n (i := 1) 108 dX9_isAhead_107 rfl rfl rfl ?_
            refine J_iald (N := 6) (lo := 0) (hi := 9) 109 dX9_isAhead_108 rfl rfl rfl rfl (fun b18 b19 => ?_)
            refine J_aload_n (i := 0) 110 dX9_isAhead_109 rfl rfl rfl ?_
            refine J_getR 113 dX9_isAhead_110 rfl fX9_25 rfl rfl ?_
            refine J_iload_n (i := 2) 114 dX9_isAhead_113 rfl rfl rfl ?_
            refine J_iald (N := 6) (lo := 0) (hi := 9) 115 dX9_isAhead_114 rfl rfl rfl rfl (fun b20 b21 => ?_)
            refine J_icmp_eq 141 118 dX9_isAhead_115 rfl rfl (fun c22 => ?_) (fun c22 => ?_)
            · refine J_iload_n (i := 1) 142 dX9_isAhead_141 rfl rfl rfl ?_
              refine J_iload_n (i := 2) 143 dX9_isAhead_142 rfl rfl rfl ?_
              refine J_icmp_ge 150 146 dX9_isAhead_143 rfl rfl (fun c23 => ?_) (fun c23 => ?_)
              · refine J_iconst 151 dX9_isAhead_150 rfl ?_
                refine J_zret dX9_isAhead_151 rfl ?_
                first | (exfalso; omega) | exact ⟨b01_t (by omega), rfl⟩ | exact ⟨b01_f (by omega), rfl⟩
              · refine J_iconst 147 dX9_isAhead_146 rfl ?_
                refine J_goto 151 dX9_isAhead_147 rfl ?_
                refine J_zret dX9_isAhead_151 rfl ?_
                first | (exfalso; omega) | exact ⟨b01_t (by omega), rfl⟩ | exact ⟨b01_f (by omega), rfl⟩
            · refine J_aload_n (i := 0) 119 dX9_isAhead_118 rfl rfl rfl ?_
              refine J_getR 122 dX9_isAhead_119 rfl fX9_25 rfl rfl ?_
              refine J_iload_n (i := 1) 123 dX9_isAhead_122 rfl rfl rfl ?_
              refine J_iald (N := 6) (lo := 0) (hi := 9) 124 dX9_isAhead_123 rfl rfl rfl rfl (fun b24 b25 => ?_)
              refine J_aload_n (i := 0) 125 dX9_isAhead_124 rfl rfl rfl ?_
              refine J_getR 128 dX9_isAhead_125 rfl fX9_25 rfl rfl ?_
              refine J_iload_n (i := 2) 129 dX9_isAhead_128 rfl rfl rfl ?_
              refine J_iald (N := 6) (lo := 0) (hi := 9) 130 dX9_isAhead_129 rfl rfl rfl rfl (fun b26 b27 => ?_)
              refine J_icmp_ge 137 133 dX9_isAhead_130 rfl rfl (fun c28 => ?_) (fun c28 => ?_)
              · refine J_iconst 138 dX9_isAhead_137 rfl ?_
                refine J_goto 151 dX9_isAhead_138 rfl ?_
                refine J_zret dX9_isAhead_151 rfl ?_
                first | (exfalso; omega) | exact ⟨b01_t (by omega), rfl⟩ | exact ⟨b01_f (by omega), rfl⟩
              · refine J_iconst 134 dX9_isAhead_133 rfl ?_
                refine J_goto 151 dX9_isAhead_134 rfl ?_
                refine J_zret dX9_isAhead_151 rfl ?_
                first | (exfalso; omega) | exact ⟨b01_t (by omega), rfl⟩ | exact ⟨b01_f (by omega), rfl⟩
          · refine J_iload_n (i := 3) 90 dX9_isAhead_89 rfl rfl rfl ?_
            refine J_iload 92 dX9_isAhead_90 rfl rfl ?_
            refine J_icmp_ge 99 95 dX9_isAhead_92 rfl rfl (fun c29 => ?_) (fun c29 => ?_)
            · refine J_iconst 100 dX9_isAhead_99 rfl ?_
              refine J_goto 151 dX9_isAhead_100 rfl ?_
              refine J_zret dX9_isAhead_151 rfl ?_
              first | (exfalso; omega) | exact ⟨b01_t (by omega), rfl⟩ | exact ⟨b01_f (by omega), rfl⟩
            · refine J_iconst 96 dX9_isAhead_95 rfl ?_
              refine J_goto 151 dX9_isAhead_96 rfl ?_
              refine J_zret dX9_isAhead_151 rfl ?_
              first | (exfalso; omega) | exact ⟨b01_t (by omega), rfl⟩ | exact ⟨b01_f (by omega), rfl⟩
        · refine J_aload_n (i := 0) 66 dX9_isAhead_65 rfl rfl rfl ?_
          refine J_getR 69 dX9_isAhead_66 rfl fX9_16 rfl rfl ?_
          refine J_iload_n (i := 2) 70 dX9_isAhead_69 rfl rfl rfl ?_
          refine J_iald (N := 6) (lo := 0) (hi := 9) 71 dX9_isAhead_70 rfl rfl rfl rfl (fun b30 b31 => ?_)
          refine J_ineg 72 dX9_isAhead_71 rfl ?_
          refine J_goto 81 dX9_isAhead_72 rfl ?_
          refine J_istore 83 dX9_isAhead_81 rfl (by decide) ?_
          refine J_iload_n (i := 3) 84 dX9_isAhead_83 rfl rfl rfl ?_
          refine J_iload 86 dX9_isAhead_84 rfl rfl ?_
          refine J_icmp_eq 103 89 dX9_isAhead_86 rfl rfl (fun c32 => ?_) (fun c32 => ?_)
          · refine J_aload_n (i := 0) 104 dX9_isAhead_103 rfl rfl rfl ?_
            refine J_getR 107 dX9_isAhead_104 rfl fX9_25 rfl rfl ?_
            refine J_iload_n (i := 1) 108 dX9_isAhead_107 rfl rfl rfl ?_
            refine J_iald (N := 6) (lo := 0) (hi := 9) 109 dX9_isAhead_108 rfl rfl rfl rfl (fun b33 b34 => ?_)
            refine J_aload_n (i := 0) 110 dX9_isAhead_109 rfl rfl rfl ?_
            refine J_getR 113 dX9_isAhead_110 rfl fX9_25 rfl rfl ?_
            refine J_iload_n (i := 2) 114 dX9_isAhead_113 rfl rfl rfl ?_
            refine J_iald (N := 6) (lo := 0) (hi := 9) 115 dX9_isAhead_114 rfl rfl rfl rfl (fun b35 b36 => ?_)
            refine J_icmp_eq 141 118 dX9_isAhead_115 rfl rfl (fun c37 => ?_) (fun c37 => ?_)
            · refine J_iload_n (i := 1) 142 dX9_isAhead_141 rfl rfl rfl ?_
              refine J_iload_n (i := 2) 143 dX9_isAhead_142 rfl rfl rfl ?_
              refine J_icmp_ge 150 146 dX9_isAhead_143 rfl rfl (fun c38 => ?_) (fun c38 => ?_)
              · refine J_iconst 151 dX9_isAhead_150 rfl ?_
                refine J_zret dX9_isAhead_151 rfl ?_
                first | (exfalso; omega) | exact ⟨b01_t (by omega), rfl⟩ | exact ⟨b01_f (by omega), rfl⟩
              · refine J_iconst 147 dX9_isAhead_146 rfl ?_
                refine J_goto 151 dX9_isAhead_147 rfl ?_
                refine J_zret dX9_isAhead_151 rfl ?_
                first | (exfalso; omega) | exact ⟨b01_t (by omega), rfl⟩ | exact ⟨b01_f (by omega), rfl⟩
            · refine J_aload_n (i := 0) 119 dX9_isAhead_118 rfl rfl rfl ?_
              refine J_getR 122 dX9_isAhead_119 rfl fX9_25 rfl rfl ?_
              refine J_iload_n (i := 1) 123 dX9_isAhead_122 rfl rfl rfl ?_
              refine J_iald (N := 6) (lo := 0) (hi := 9) 124 dX9_isAhead_123 rfl rfl rfl rfl (fun b39 b40 => ?_)
              refine J_aload_n (i := 0) 125 dX9_isAhead_124 rfl rfl rfl ?_
              refine J_getR 128 dX9_isAhead_125 rfl fX9_25 rfl rfl ?_
              refine J_iload_n (i := 2) 129 dX9_isAhead_128 rfl rfl rfl ?_
              refine J_iald (N := 6) (lo := 0) (hi := 9) 130 dX9_isAhead_129 rfl rfl rfl rfl (fun b41 b42 => ?_)
              refine J_icmp_ge 137 133 dX9_isAhead_130 rfl rfl (fun c43 => ?_) (fun c43 => ?_)
              · refine J_iconst 138 dX9_isAhead_137 rfl ?_
                refine J_goto 151 dX9_isAhead_138 rfl ?_
                refine J_zret dX9_isAhead_151 rfl ?_
                first | (exfalso; omega) | exact ⟨b01_t (by omega), rfl⟩ | exact ⟨b01_f (by omega), rfl⟩
              · refine J_iconst 134 dX9_isAhead_133 rfl ?_
                refine J_goto 151 dX9_isAhead_134 rfl ?_
                refine J_zret dX9_isAhead_151 rfl ?_
                first | (exfalso; omega) | exact ⟨b01_t (by omega), rfl⟩ | exact ⟨b01_f (by omega), rfl⟩
          · refine J_iload_n (i := 3) 90 dX9_isAhead_89 rfl rfl rfl ?_
            refine J_iload 92 dX9_isAhead_90 rfl rfl ?_
            refine J_icmp_ge 99 95 dX9_isAhead_92 rfl rfl (fun c44 => ?_) (fun c44 => ?_)
            · refine J_iconst 100 dX9_isAhead_99 rfl ?_
              refine J_goto 151 dX9_isAhead_100 rfl ?_
              refine J_zret dX9_isAhead_151 rfl ?_
              first | (exfalso; omega) | exact ⟨b01_t (by omega), rfl⟩ | exact ⟨b01_f (by omega), rfl⟩
            · refine J_iconst 96 dX9_isAhead_95 rfl ?_
              refine J_goto 151 dX9_isAhead_96 rfl ?_
              refine J_zret dX9_isAhead_151 rfl ?_
              first | (exfalso; omega) | exact ⟨b01_t (by omega), rfl⟩ | exact ⟨b01_f (by omega), rfl⟩
      · refine J_aload_n (i := 0) 49 dX9_isAhead_48 rfl rfl rfl ?_
        refine J_iload_n (i := 2) 50 dX9_isAhead_49 rfl rfl rfl ?_
        refine J_callVi 53 dX9_isAhead_50 rfl kX9_171 mX9_look rfl rfl rfl (c_X9_look) (by first | decide | omega) rfl rfl (Nat.le_of_ble_eq_true rfl) (fun z46 s47 h45 => ?_)
        obtain ⟨rfl, rfl⟩ := h45
        refine J_ineg 54 dX9_isAhead_53 rfl ?_
        refine J_goto 81 dX9_isAhead_54 rfl ?_
        refine J_istore 83 dX9_isAhead_81 rfl (by decide) ?_
        refine J_iload_n (i := 3) 84 dX9_isAhead_83 rfl rfl rfl ?_
        refine J_iload 86 dX9_isAhead_84 rfl rfl ?_
        refine J_icmp_eq 103 89 dX9_isAhead_86 rfl rfl (fun c48 => ?_) (fun c48 => ?_)
        · refine J_aload_n (i := 0) 104 dX9_isAhead_103 rfl rfl rfl ?_
          refine J_getR 107 dX9_isAhead_104 rfl fX9_25 rfl rfl ?_
          refine J_iload_n (i := 1) 108 dX9_isAhead_107 rfl rfl rfl ?_
          refine J_iald (N := 6) (lo := 0) (hi := 9) 109 dX9_isAhead_108 rfl rfl rfl rfl (fun b49 b50 => ?_)
          refine J_aload_n (i := 0) 110 dX9_isAhead_109 rfl rfl rfl ?_
          refine J_getR 113 dX9_isAhead_110 rfl fX9_25 rfl rfl ?_
          refine J_iload_n (i := 2) 114 dX9_isAhead_113 rfl rfl rfl ?_
          refine J_iald (N := 6) (lo := 0) (hi := 9) 115 dX9_isAhead_114 rfl rfl rfl rfl (fun b51 b52 => ?_)
          refine J_icmp_eq 141 118 dX9_isAhead_115 rfl rfl (fun c53 => ?_) (fun c53 => ?_)
          · refine J_iload_n (i := 1) 142 dX9_isAhead_141 rfl rfl rfl ?_
            refine J_iload_n (i := 2) 143 dX9_isAhead_142 rfl rfl rfl ?_
            refine J_icmp_ge 150 146 dX9_isAhead_143 rfl rfl (fun c54 => ?_) (fun c54 => ?_)
            · refine J_iconst 151 dX9_isAhead_150 rfl ?_
              refine J_zret dX9_isAhead_151 rfl ?_
              first | (exfalso; omega) | exact ⟨b01_t (by omega), rfl⟩ | exact ⟨b01_f (by omega), rfl⟩
            · refine J_iconst 147 dX9_isAhead_146 rfl ?_
              refine J_goto 151 dX9_isAhead_147 rfl ?_
              refine J_zret dX9_isAhead_151 rfl ?_
              first | (exfalso; omega) | exact ⟨b01_t (by omega), rfl⟩ | exact ⟨b01_f (by omega), rfl⟩
          · refine J_aload_n (i := 0) 119 dX9_isAhead_118 rfl rfl rfl ?_
            refine J_getR 122 dX9_isAhead_119 rfl fX9_25 rfl rfl ?_
            refine J_iload_n (i := 1) 123 dX9_isAhead_122 rfl rfl rfl ?_
            refine J_iald (N := 6) (lo := 0) (hi := 9) 124 dX9_isAhead_123 rfl rfl rfl rfl (fun b55 b56 => ?_)
            refine J_aload_n (i := 0) 125 dX9_isAhead_124 rfl rfl rfl ?_
            refine J_getR 128 dX9_isAhead_125 rfl fX9_25 rfl rfl ?_
            refine J_iload_n (i := 2) 129 dX9_isAhead_128 rfl rfl rfl ?_
            refine J_iald (N := 6) (lo := 0) (hi := 9) 130 dX9_isAhead_129 rfl rfl rfl rfl (fun b57 b58 => ?_)
            refine J_icmp_ge 137 133 dX9_isAhead_130 rfl rfl (fun c59 => ?_) (fun c59 => ?_)
            · refine J_iconst 138 dX9_isAhead_137 rfl ?_
              refine J_goto 151 dX9_isAhead_138 rfl ?_
              refine J_zret dX9_isAhead_151 rfl ?_
              first | (exfalso; omega) | exact ⟨b01_t (by omega), rfl⟩ | exact ⟨b01_f (by omega), rfl⟩
            · refine J_iconst 134 dX9_isAhead_133 rfl ?_
              refine J_goto 151 dX9_isAhead_134 rfl ?_
              refine J_zret dX9_isAhead_151 rfl ?_
              first | (exfalso; omega) | exact ⟨b01_t (by omega), rfl⟩ | exact ⟨b01_f (by omega), rfl⟩
        · refine J_iload_n (i := 3) 90 dX9_isAhead_89 rfl rfl rfl ?_
          refine J_iload 92 dX9_isAhead_90 rfl rfl ?_
          refine J_icmp_ge 99 95 dX9_isAhead_92 rfl rfl (fun c60 => ?_) (fun c60 => ?_)
          · refine J_iconst 100 dX9_isAhead_99 rfl ?_
            refine J_goto 151 dX9_isAhead_100 rfl ?_
            refine J_zret dX9_isAhead_151 rfl ?_
            first | (exfalso; omega) | exact ⟨b01_t (by omega), rfl⟩ | exact ⟨b01_f (by omega), rfl⟩
          · refine J_iconst 96 dX9_isAhead_95 rfl ?_
            refine J_goto 151 dX9_isAhead_96 rfl ?_
            refine J_zret dX9_isAhead_151 rfl ?_
            first | (exfalso; omega) | exact ⟨b01_t (by omega), rfl⟩ | exact ⟨b01_f (by omega), rfl⟩
    · refine J_aload_n (i := 0) 25 dX9_isAhead_24 rfl rfl rfl ?_
      refine J_getR 28 dX9_isAhead_25 rfl fX9_16 rfl rfl ?_
      refine J_iload_n (i := 1) 29 dX9_isAhead_28 rfl rfl rfl ?_
      refine J_iald (N := 6) (lo := 0) (hi := 9) 30 dX9_isAhead_29 rfl rfl rfl rfl (fun b61 b62 => ?_)
      refine J_ineg 31 dX9_isAhead_30 rfl ?_
      refine J_goto 40 dX9_isAhead_31 rfl ?_
      refine J_istore_n (i := 3) 41 dX9_isAhead_40 rfl rfl (by decide) ?_
      refine J_aload_n (i := 0) 42 dX9_isAhead_41 rfl rfl rfl ?_
      refine J_getI (jz := 3) (lo := 0) (hi := 2) 45 dX9_isAhead_42 rfl fX9_162 rfl rfl rfl rfl (fun b63 b64 => ?_)
      refine J_if_ne 57 48 dX9_isAhead_45 rfl rfl (fun c65 => ?_) (fun c65 => ?_)
      · refine J_aload_n (i := 0) 58 dX9_isAhead_57 rfl rfl rfl ?_
        refine J_getI (jz := 3) (lo := 0) (hi := 2) 61 dX9_isAhead_58 rfl fX9_162 rfl rfl rfl rfl (fun b66 b67 => ?_)
        refine J_iconst 62 dX9_isAhead_61 rfl ?_
        refine J_icmp_ne 75 65 dX9_isAhead_62 rfl rfl (fun c68 => ?_) (fun c68 => ?_)
        · refine J_aload_n (i := 0) 76 dX9_isAhead_75 rfl rfl rfl ?_
          refine J_getR 79 dX9_isAhead_76 rfl fX9_25 rfl rfl ?_
          refine J_iload_n (i := 2) 80 dX9_isAhead_79 rfl rfl rfl ?_
          refine J_iald (N := 6) (lo := 0) (hi := 9) 81 dX9_isAhead_80 rfl rfl rfl rfl (fun b69 b70 => ?_)
          refine J_istore 83 dX9_isAhead_81 rfl (by decide) ?_
          refine J_iload_n (i := 3) 84 dX9_isAhead_83 rfl rfl rfl ?_
          refine J_iload 86 dX9_isAhead_84 rfl rfl ?_
          refine J_icmp_eq 103 89 dX9_isAhead_86 rfl rfl (fun c71 => ?_) (fun c71 => ?_)
          · refine J_aload_n (i := 0) 104 dX9_isAhead_103 rfl rfl rfl ?_
            refine J_getR 107 dX9_isAhead_104 rfl fX9_25 rfl rfl ?_
            refine J_iload_n (i := 1) 108 dX9_isAhead_107 rfl rfl rfl ?_
            refine J_iald (N := 6) (lo := 0) (hi := 9) 109 dX9_isAhead_108 rfl rfl rfl rfl (fun b72 b73 => ?_)
            refine J_aload_n (i := 0) 110 dX9_isAhead_109 rfl rfl rfl ?_
            refine J_getR 113 dX9_isAhead_110 rfl fX9_25 rfl rfl ?_
            refine J_iload_n (i := 2) 114 dX9_isAhead_113 rfl rfl rfl ?_
            refine J_iald (N := 6) (lo := 0) (hi := 9) 115 dX9_isAhead_114 rfl rfl rfl rfl (fun b74 b75 => ?_)
            refine J_icmp_eq 141 118 dX9_isAhead_115 rfl rfl (fun c76 => ?_) (fun c76 => ?_)
            · refine J_iload_n (i := 1) 142 dX9_isAhead_141 rfl rfl rfl ?_
              refine J_iload_n (i := 2) 143 dX9_isAhead_142 rfl rfl rfl ?_
              refine J_icmp_ge 150 146 dX9_isAhead_143 rfl rfl (fun c77 => ?_) (fun c77 => ?_)
              · refine J_iconst 151 dX9_isAhead_150 rfl ?_
                refine J_zret dX9_isAhead_151 rfl ?_
                first | (exfalso; omega) | exact ⟨b01_t (by omega), rfl⟩ | exact ⟨b01_f (by omega), rfl⟩
              · refine J_iconst 147 dX9_isAhead_146 rfl ?_
                refine J_goto 151 dX9_isAhead_147 rfl ?_
                refine J_zret dX9_isAhead_151 rfl ?_
                first | (exfalso; omega) | exact ⟨b01_t (by omega), rfl⟩ | exact ⟨b01_f (by omega), rfl⟩
            · refine J_aload_n (i := 0) 119 dX9_isAhead_118 rfl rfl rfl ?_
              refine J_getR 122 dX9_isAhead_119 rfl fX9_25 rfl rfl ?_
              refine J_iload_n (i := 1) 123 dX9_isAhead_122 rfl rfl rfl ?_
              refine J_iald (N := 6) (lo := 0) (hi := 9) 124 dX9_isAhead_123 rfl rfl rfl rfl (fun b78 b79 => ?_)
              refine J_aload_n (i := 0) 125 dX9_isAhead_124 rfl rfl rfl ?_
              refine J_getR 128 dX9_isAhead_125 rfl fX9_25 rfl rfl ?_
              refine J_iload_n (i := 2) 129 dX9_isAhead_128 rfl rfl rfl ?_
              refine J_iald (N := 6) (lo := 0) (hi := 9) 130 dX9_isAhead_129 rfl rfl rfl rfl (fun b80 b81 => ?_)
              refine J_icmp_ge 137 133 dX9_isAhead_130 rfl rfl (fun c82 => ?_) (fun c82 => ?_)
              · refine J_iconst 138 dX9_isAhead_137 rfl ?_
                refine J_goto 151 dX9_isAhead_138 rfl ?_
                refine J_zret dX9_isAhead_151 rfl ?_
                first | (exfalso; omega) | exact ⟨b01_t (by omega), rfl⟩ | exact ⟨b01_f (by omega), rfl⟩
              · refine J_iconst 134 dX9_isAhead_133 rfl ?_
                refine J_goto 151 dX9_isAhead_134 rfl ?_
                refine J_zret dX9_isAhead_151 rfl ?_
                first | (exfalso; omega) | exact ⟨b01_t (by omega), rfl⟩ | exact ⟨b01_f (by omega), rfl⟩
          · refine J_iload_n (i := 3) 90 dX9_isAhead_89 rfl rfl rfl ?_
            refine J_iload 92 dX9_isAhead_90 rfl rfl ?_
            refine J_icmp_ge 99 95 dX9_isAhead_92 rfl rfl (fun c83 => ?_) (fun c83 => ?_)
            · refine J_iconst 100 dX9_isAhead_99 rfl ?_
              refine J_goto 151 dX9_isAhead_100 rfl ?_
              refine J_zret dX9_isAhead_151 rfl ?_
              first | (exfalso; omega) | exact ⟨b01_t (by omega), rfl⟩ | exact ⟨b01_f (by omega), rfl⟩
            · refine J_iconst 96 dX9_isAhead_95 rfl ?_
              refine J_goto 151 dX9_isAhead_96 rfl ?_
              refine J_zret dX9_isAhead_151 rfl ?_
              first | (exfalso; omega) | exact ⟨b01_t (by omega), rfl⟩ | exact ⟨b01_f (by omega), rfl⟩
        · refine J_aload_n (i := 0) 66 dX9_isAhead_65 rfl rfl rfl ?_
          refine J_getR 69 dX9_isAhead_66 rfl fX9_16 rfl rfl ?_
          refine J_iload_n (i := 2) 70 dX9_isAhead_69 rfl rfl rfl ?_
          refine J_iald (N := 6) (lo := 0) (hi := 9) 71 dX9_isAhead_70 rfl rfl rfl rfl (fun b84 b85 => ?_)
          refine J_ineg 72 dX9_isAhead_71 rfl ?_
          refine J_goto 81 dX9_isAhead_72 rfl ?_
          refine J_istore 83 dX9_isAhead_81 rfl (by decide) ?_
          refine J_iload_n (i := 3) 84 dX9_isAhead_83 rfl rfl rfl ?_
          refine J_iload 86 dX9_isAhead_84 rfl rfl ?_
          refine J_icmp_eq 103 89 dX9_isAhead_86 rfl rfl (fun c86 => ?_) (fun c86 => ?_)
          · refine J_aload_n (i := 0) 104 dX9_isAhead_103 rfl rfl rfl ?_
            refine J_getR 107 dX9_isAhead_104 rfl fX9_25 rfl rfl ?_
            refine J_iload_n (i := 1) 108 dX9_isAhead_107 rfl rfl rfl ?_
            refine J_iald (N := 6) (lo := 0) (hi := 9) 109 dX9_isAhead_108 rfl rfl rfl rfl (fun b87 b88 => ?_)
            refine J_aload_n (i := 0) 110 dX9_isAhead_109 rfl rfl rfl ?_
            refine J_getR 113 dX9_isAhead_110 rfl fX9_25 rfl rfl ?_
            refine J_iload_n (i := 2) 114 dX9_isAhead_113 rfl rfl rfl ?_
            refine J_iald (N := 6) (lo := 0) (hi := 9) 115 dX9_isAhead_114 rfl rfl rfl rfl (fun b89 b90 => ?_)
            refine J_icmp_eq 141 118 dX9_isAhead_115 rfl rfl (fun c91 => ?_) (fun c91 => ?_)
            · refine J_iload_n (i := 1) 142 dX9_isAhead_141 rfl rfl rfl ?_
              refine J_iload_n (i := 2) 143 dX9_isAhead_142 rfl rfl rfl ?_
              refine J_icmp_ge 150 146 dX9_isAhead_143 rfl rfl (fun c92 => ?_) (fun c92 => ?_)
              · refine J_iconst 151 dX9_isAhead_150 rfl ?_
                refine J_zret dX9_isAhead_151 rfl ?_
                first | (exfalso; omega) | exact ⟨b01_t (by omega), rfl⟩ | exact ⟨b01_f (by omega), rfl⟩
              · refine J_iconst 147 dX9_isAhead_146 rfl ?_
                refine J_goto 151 dX9_isAhead_147 rfl ?_
                refine J_zret dX9_isAhead_151 rfl ?_
                first | (exfalso; omega) | exact ⟨b01_t (by omega), rfl⟩ | exact ⟨b01_f (by omega), rfl⟩
            · refine J_aload_n (i := 0) 119 dX9_isAhead_118 rfl rfl rfl ?_
              refine J_getR 122 dX9_isAhead_119 rfl fX9_25 rfl rfl ?_
              refine J_iload_n (i := 1) 123 dX9_isAhead_122 rfl rfl rfl ?_
              refine J_iald (N := 6) (lo := 0) (hi := 9) 124 dX9_isAhead_123 rfl rfl rfl rfl (fun b93 b94 => ?_)
              refine J_aload_n (i := 0) 125 dX9_isAhead_124 rfl rfl rfl ?_
              refine J_getR 128 dX9_isAhead_125 rfl fX9_25 rfl rfl ?_
              refine J_iload_n (i := 2) 129 dX9_isAhead_128 rfl rfl rfl ?_
              refine J_iald (N := 6) (lo := 0) (hi := 9) 130 dX9_isAhead_129 rfl rfl rfl rfl (fun b95 b96 => ?_)
              refine J_icmp_ge 137 133 dX9_isAhead_130 rfl rfl (fun c97 => ?_) (fun c97 => ?_)
              · refine J_iconst 138 dX9_isAhead_137 rfl ?_
                refine J_goto 151 dX9_isAhead_138 rfl ?_
                refine J_zret dX9_isAhead_151 rfl ?_
                first | (exfalso; omega) | exact ⟨b01_t (by omega), rfl⟩ | exact ⟨b01_f (by omega), rfl⟩
              · refine J_iconst 134 dX9_isAhead_133 rfl ?_
                refine J_goto 151 dX9_isAhead_134 rfl ?_
                refine J_zret dX9_isAhead_151 rfl ?_
                first | (exfalso; omega) | exact ⟨b01_t (by omega), rfl⟩ | exact ⟨b01_f (by omega), rfl⟩
          · refine J_iload_n (i := 3) 90 dX9_isAhead_89 rfl rfl rfl ?_
            refine J_iload 92 dX9_isAhead_90 rfl rfl ?_
            refine J_icmp_ge 99 95 dX9_isAhead_92 rfl rfl (fun c98 => ?_) (fun c98 => ?_)
            · refine J_iconst 100 dX9_isAhead_99 rfl ?_
              refine J_goto 151 dX9_isAhead_100 rfl ?_
              refine J_zret dX9_isAhead_151 rfl ?_
              first | (exfalso; omega) | exact ⟨b01_t (by omega), rfl⟩ | exact ⟨b01_f (by omega), rfl⟩
            · refine J_iconst 96 dX9_isAhead_95 rfl ?_
              refine J_goto 151 dX9_isAhead_96 rfl ?_
              refine J_zret dX9_isAhead_151 rfl ?_
              first | (exfalso; omega) | exact ⟨b01_t (by omega), rfl⟩ | exact ⟨b01_f (by omega), rfl⟩
      · refine J_aload_n (i := 0) 49 dX9_isAhead_48 rfl rfl rfl ?_
        refine J_iload_n (i := 2) 50 dX9_isAhead_49 rfl rfl rfl ?_
        refine J_callVi 53 dX9_isAhead_50 rfl kX9_171 mX9_look rfl rfl rfl (c_X9_look) (by first | decide | omega) rfl rfl (Nat.le_of_ble_eq_true rfl) (fun z100 s101 h99 => ?_)
        obtain ⟨rfl, rfl⟩ := h99
        refine J_ineg 54 dX9_isAhead_53 rfl ?_
        refine J_goto 81 dX9_isAhead_54 rfl ?_
        refine J_istore 83 dX9_isAhead_81 rfl (by decide) ?_
        refine J_iload_n (i := 3) 84 dX9_isAhead_83 rfl rfl rfl ?_
        refine J_iload 86 dX9_isAhead_84 rfl rfl ?_
        refine J_icmp_eq 103 89 dX9_isAhead_86 rfl rfl (fun c102 => ?_) (fun c102 => ?_)
        · refine J_aload_n (i := 0) 104 dX9_isAhead_103 rfl rfl rfl ?_
          refine J_getR 107 dX9_isAhead_104 rfl fX9_25 rfl rfl ?_
          refine J_iload_n (i := 1) 108 dX9_isAhead_107 rfl rfl rfl ?_
          refine J_iald (N := 6) (lo := 0) (hi := 9) 109 dX9_isAhead_108 rfl rfl rfl rfl (fun b103 b104 => ?_)
          refine J_aload_n (i := 0) 110 dX9_isAhead_109 rfl rfl rfl ?_
          refine J_getR 113 dX9_isAhead_110 rfl fX9_25 rfl rfl ?_
          refine J_iload_n (i := 2) 114 dX9_isAhead_113 rfl rfl rfl ?_
          refine J_iald (N := 6) (lo := 0) (hi := 9) 115 dX9_isAhead_114 rfl rfl rfl rfl (fun b105 b106 => ?_)
          refine J_icmp_eq 141 118 dX9_isAhead_115 rfl rfl (fun c107 => ?_) (fun c107 => ?_)
          · refine J_iload_n (i := 1) 142 dX9_isAhead_141 rfl rfl rfl ?_
            refine J_iload_n (i := 2) 143 dX9_isAhead_142 rfl rfl rfl ?_
            refine J_icmp_ge 150 146 dX9_isAhead_143 rfl rfl (fun c108 => ?_) (fun c108 => ?_)
            · refine J_iconst 151 dX9_isAhead_150 rfl ?_
              refine J_zret dX9_isAhead_151 rfl ?_
              first | (exfalso; omega) | exact ⟨b01_t (by omega), rfl⟩ | exact ⟨b01_f (by omega), rfl⟩
            · refine J_iconst 147 dX9_isAhead_146 rfl ?_
              refine J_goto 151 dX9_isAhead_147 rfl ?_
              refine J_zret dX9_isAhead_151 rfl ?_
              first | (exfalso; omega) | exact ⟨b01_t (by omega), rfl⟩ | exact ⟨b01_f (by omega), rfl⟩
          · refine J_aload_n (i := 0) 119 dX9_isAhead_118 rfl rfl rfl ?_
            refine J_getR 122 dX9_isAhead_119 rfl fX9_25 rfl rfl ?_
            refine J_iload_n (i := 1) 123 dX9_isAhead_122 rfl rfl rfl ?_
            refine J_iald (N := 6) (lo := 0) (hi := 9) 124 dX9_isAhead_123 rfl rfl rfl rfl (fun b109 b110 => ?_)
            refine J_aload_n (i := 0) 125 dX9_isAhead_124 rfl rfl rfl ?_
            refine J_getR 128 dX9_isAhead_125 rfl fX9_25 rfl rfl ?_
            refine J_iload_n (i := 2) 129 dX9_isAhead_128 rfl rfl rfl ?_
            refine J_iald (N := 6) (lo := 0) (hi := 9) 130 dX9_isAhead_129 rfl rfl rfl rfl (fun b111 b112 => ?_)
            refine J_icmp_ge 137 133 dX9_isAhead_130 rfl rfl (fun c113 => ?_) (fun c113 => ?_)
            · refine J_iconst 138 dX9_isAhead_137 rfl ?_
              refine J_goto 151 dX9_isAhead_138 rfl ?_
              refine J_zret dX9_isAhead_151 rfl ?_
              first | (exfalso; omega) | exact ⟨b01_t (by omega), rfl⟩ | exact ⟨b01_f (by omega), rfl⟩
            · refine J_iconst 134 dX9_isAhead_133 rfl ?_
              refine J_goto 151 dX9_isAhead_134 rfl ?_
              refine J_zret dX9_isAhead_151 rfl ?_
              first | (exfalso; omega) | exact ⟨b01_t (by omega), rfl⟩ | exact ⟨b01_f (by omega), rfl⟩
        · refine J_iload_n (i := 3) 90 dX9_isAhead_89 rfl rfl rfl ?_
          refine J_iload 92 dX9_isAhead_90 rfl rfl ?_
          refine J_icmp_ge 99 95 dX9_isAhead_92 rfl rfl (fun c114 => ?_) (fun c114 => ?_)
          · refine J_iconst 100 dX9_isAhead_99 rfl ?_
            refine J_goto 151 dX9_isAhead_100 rfl ?_
            refine J_zret dX9_isAhead_151 rfl ?_
            first | (exfalso; omega) | exact ⟨b01_t (by omega), rfl⟩ | exact ⟨b01_f (by omega), rfl⟩
          · refine J_iconst 96 dX9_isAhead_95 rfl ?_
            refine J_goto 151 dX9_isAhead_96 rfl ?_
            refine J_zret dX9_isAhead_151 rfl ?_
            first | (exfalso; omega) | exact ⟨b01_t (by omega), rfl⟩ | exact ⟨b01_f (by omega), rfl⟩
  · refine J_aload_n (i := 0) 8 dX9_isAhead_7 rfl rfl rfl ?_
    refine J_iload_n (i := 1) 9 dX9_isAhead_8 rfl rfl rfl ?_
    refine J_callVi 12 dX9_isAhead_9 rfl kX9_171 mX9_look rfl rfl rfl (c_X9_look) (by first | decide | omega) rfl rfl (Nat.le_of_ble_eq_true rfl) (fun z116 s117 h115 => ?_)
    obtain ⟨rfl, rfl⟩ := h115
    refine J_ineg 13 dX9_isAhead_12 rfl ?_
    refine J_goto 40 dX9_isAhead_13 rfl ?_
    refine J_istore_n (i := 3) 41 dX9_isAhead_40 rfl rfl (by decide) ?_
    refine J_aload_n (i := 0) 42 dX9_isAhead_41 rfl rfl rfl ?_
    refine J_getI (jz := 3) (lo := 0) (hi := 2) 45 dX9_isAhead_42 rfl fX9_162 rfl rfl rfl rfl (fun b118 b119 => ?_)
    refine J_if_ne 57 48 dX9_isAhead_45 rfl rfl (fun c120 => ?_) (fun c120 => ?_)
    · refine J_aload_n (i := 0) 58 dX9_isAhead_57 rfl rfl rfl ?_
      refine J_getI (jz := 3) (lo := 0) (hi := 2) 61 dX9_isAhead_58 rfl fX9_162 rfl rfl rfl rfl (fun b121 b122 => ?_)
      refine J_iconst 62 dX9_isAhead_61 rfl ?_
      refine J_icmp_ne 75 65 dX9_isAhead_62 rfl rfl (fun c123 => ?_) (fun c123 => ?_)
      · refine J_aload_n (i := 0) 76 dX9_isAhead_75 rfl rfl rfl ?_
        refine J_getR 79 dX9_isAhead_76 rfl fX9_25 rfl rfl ?_
        refine J_iload_n (i := 2) 80 dX9_isAhead_79 rfl rfl rfl ?_
        refine J_iald (N := 6) (lo := 0) (hi := 9) 81 dX9_isAhead_80 rfl rfl rfl rfl (fun b124 b125 => ?_)
        refine J_istore 83 dX9_isAhead_81 rfl (by decide) ?_
        refine J_iload_n (i := 3) 84 dX9_isAhead_83 rfl rfl rfl ?_
        refine J_iload 86 dX9_isAhead_84 rfl rfl ?_
        refine J_icmp_eq 103 89 dX9_isAhead_86 rfl rfl (fun c126 => ?_) (fun c126 => ?_)
        · refine J_aload_n (i := 0) 104 dX9_isAhead_103 rfl rfl rfl ?_
          refine J_getR 107 dX9_isAhead_104 rfl fX9_25 rfl rfl ?_
          refine J_iload_n (i := 1) 108 dX9_isAhead_107 rfl rfl rfl ?_
          refine J_iald (N := 6) (lo := 0) (hi := 9) 109 dX9_isAhead_108 rfl rfl rfl rfl (fun b127 b128 => ?_)
          refine J_aload_n (i := 0) 110 dX9_isAhead_109 rfl rfl rfl ?_
          refine J_getR 113 dX9_isAhead_110 rfl fX9_25 rfl rfl ?_
          refine J_iload_n (i := 2) 114 dX9_isAhead_113 rfl rfl rfl ?_
          refine J_iald (N := 6) (lo := 0) (hi := 9) 115 dX9_isAhead_114 rfl rfl rfl rfl (fun b129 b130 => ?_)
          refine J_icmp_eq 141 118 dX9_isAhead_115 rfl rfl (fun c131 => ?_) (fun c131 => ?_)
          · refine J_iload_n (i := 1) 142 dX9_isAhead_141 rfl rfl rfl ?_
            refine J_iload_n (i := 2) 143 dX9_isAhead_142 rfl rfl rfl ?_
            refine J_icmp_ge 150 146 dX9_isAhead_143 rfl rfl (fun c132 => ?_) (fun c132 => ?_)
            · refine J_iconst 151 dX9_isAhead_150 rfl ?_
              refine J_zret dX9_isAhead_151 rfl ?_
              first | (exfalso; omega) | exact ⟨b01_t (by omega), rfl⟩ | exact ⟨b01_f (by omega), rfl⟩
            · refine J_iconst 147 dX9_isAhead_146 rfl ?_
              refine J_goto 151 dX9_isAhead_147 rfl ?_
              refine J_zret dX9_isAhead_151 rfl ?_
              first | (exfalso; omega) | exact ⟨b01_t (by omega), rfl⟩ | exact ⟨b01_f (by omega), rfl⟩
          · refine J_aload_n (i := 0) 119 dX9_isAhead_118 rfl rfl rfl ?_
            refine J_getR 122 dX9_isAhead_119 rfl fX9_25 rfl rfl ?_
            refine J_iload_n (i := 1) 123 dX9_isAhead_122 rfl rfl rfl ?_
            refine J_iald (N := 6) (lo := 0) (hi := 9) 124 dX9_isAhead_123 rfl rfl rfl rfl (fun b133 b134 => ?_)
            refine J_aload_n (i := 0) 125 dX9_isAhead_124 rfl rfl rfl ?_
            refine J_getR 128 dX9_isAhead_125 rfl fX9_25 rfl rfl ?_
            refine J_iload_n (i := 2) 129 dX9_isAhead_128 rfl rfl rfl ?_
            refine J_iald (N := 6) (lo := 0) (hi := 9) 130 dX9_isAhead_129 rfl rfl rfl rfl (fun b135 b136 => ?_)
            refine J_icmp_ge 137 133 dX9_isAhead_130 rfl rfl (fun c137 => ?_) (fun c137 => ?_)
            · refine J_iconst 138 dX9_isAhead_137 rfl ?_
              refine J_goto 151 dX9_isAhead_138 rfl ?_
              refine J_zret dX9_isAhead_151 rfl ?_
              first | (exfalso; omega) | exact ⟨b01_t (by omega), rfl⟩ | exact ⟨b01_f (by omega), rfl⟩
            · refine J_iconst 134 dX9_isAhead_133 rfl ?_
              refine J_goto 151 dX9_isAhead_134 rfl ?_
              refine J_zret dX9_isAhead_151 rfl ?_
              first | (exfalso; omega) | exact ⟨b01_t (by omega), rfl⟩ | exact ⟨b01_f (by omega), rfl⟩
        · refine J_iload_n (i := 3) 90 dX9_isAhead_89 rfl rfl rfl ?_
          refine J_iload 92 dX9_isAhead_90 rfl rfl ?_
          refine J_icmp_ge 99 95 dX9_isAhead_92 rfl rfl (fun c138 => ?_) (fun c138 => ?_)
          · refine J_iconst 100 dX9_isAhead_99 rfl ?_
            refine J_goto 151 dX9_isAhead_100 rfl ?_
            refine J_zret dX9_isAhead_151 rfl ?_
            first | (exfalso; omega) | exact ⟨b01_t (by omega), rfl⟩ | exact ⟨b01_f (by omega), rfl⟩
          · refine J_iconst 96 dX9_isAhead_95 rfl ?_
            refine J_goto 151 dX9_isAhead_96 rfl ?_
            refine J_zret dX9_isAhead_151 rfl ?_
            first | (exfalso; omega) | exact ⟨b01_t (by omega), rfl⟩ | exact ⟨b01_f (by omega), rfl⟩
      · refine J_aload_n (i := 0) 66 dX9_isAhead_65 rfl rfl rfl ?_
        refine J_getR 69 dX9_isAhead_66 rfl fX9_16 rfl rfl ?_
        refine J_iload_n (i := 2) 70 dX9_isAhead_69 rfl rfl rfl ?_
        refine J_iald (N := 6) (lo := 0) (hi := 9) 71 dX9_isAhead_70 rfl rfl rfl rfl (fun b139 b140 => ?_)
        refine J_ineg 72 dX9_isAhead_71 rfl ?_
        refine J_goto 81 dX9_isAhead_72 rfl ?_
        refine J_istore 83 dX9_isAhead_81 rfl (by decide) ?_
        refine J_iload_n (i := 3) 84 dX9_isAhead_83 rfl rfl rfl ?_
        refine J_iload 86 dX9_isAhead_84 rfl rfl ?_
        refine J_icmp_eq 103 89 dX9_isAhead_86 rfl rfl (fun c141 => ?_) (fun c141 => ?_)
        · refine J_aload_n (i := 0) 104 dX9_isAhead_103 rfl rfl rfl ?_
          refine J_getR 107 dX9_isAhead_104 rfl fX9_25 rfl rfl ?_
          refine J_iload_n (i := 1) 108 dX9_isAhead_107 rfl rfl rfl ?_
          refine J_iald (N := 6) (lo := 0) (hi := 9) 109 dX9_isAhead_108 rfl rfl rfl rfl (fun b142 b143 => ?_)
          refine J_aload_n (i := 0) 110 dX9_isAhead_109 rfl rfl rfl ?_
          refine J_getR 113 dX9_isAhead_110 rfl fX9_25 rfl rfl ?_
          refine J_iload_n (i := 2) 114 dX9_isAhead_113 rfl rfl rfl ?_
          refine J_iald (N := 6) (lo := 0) (hi := 9) 115 dX9_isAhead_114 rfl rfl rfl rfl (fun b144 b145 => ?_)
          refine J_icmp_eq 141 118 dX9_isAhead_115 rfl rfl (fun c146 => ?_) (fun c146 => ?_)
          · refine J_iload_n (i := 1) 142 dX9_isAhead_141 rfl rfl rfl ?_
            refine J_iload_n (i := 2) 143 dX9_isAhead_142 rfl rfl rfl ?_
            refine J_icmp_ge 150 146 dX9_isAhead_143 rfl rfl (fun c147 => ?_) (fun c147 => ?_)
            · refine J_iconst 151 dX9_isAhead_150 rfl ?_
              refine J_zret dX9_isAhead_151 rfl ?_
              first | (exfalso; omega) | exact ⟨b01_t (by omega), rfl⟩ | exact ⟨b01_f (by omega), rfl⟩
            · refine J_iconst 147 dX9_isAhead_146 rfl ?_
              refine J_goto 151 dX9_isAhead_147 rfl ?_
              refine J_zret dX9_isAhead_151 rfl ?_
              first | (exfalso; omega) | exact ⟨b01_t (by omega), rfl⟩ | exact ⟨b01_f (by omega), rfl⟩
          · refine J_aload_n (i := 0) 119 dX9_isAhead_118 rfl rfl rfl ?_
            refine J_getR 122 dX9_isAhead_119 rfl fX9_25 rfl rfl ?_
            refine J_iload_n (i := 1) 123 dX9_isAhead_122 rfl rfl rfl ?_
            refine J_iald (N := 6) (lo := 0) (hi := 9) 124 dX9_isAhead_123 rfl rfl rfl rfl (fun b148 b149 => ?_)
            refine J_aload_n (i := 0) 125 dX9_isAhead_124 rfl rfl rfl ?_
            refine J_getR 128 dX9_isAhead_125 rfl fX9_25 rfl rfl ?_
            refine J_iload_n (i := 2) 129 dX9_isAhead_128 rfl rfl rfl ?_
            refine J_iald (N := 6) (lo := 0) (hi := 9) 130 dX9_isAhead_129 rfl rfl rfl rfl (fun b150 b151 => ?_)
            refine J_icmp_ge 137 133 dX9_isAhead_130 rfl rfl (fun c152 => ?_) (fun c152 => ?_)
            · refine J_iconst 138 dX9_isAhead_137 rfl ?_
              refine J_goto 151 dX9_isAhead_138 rfl ?_
              refine J_zret dX9_isAhead_151 rfl ?_
              first | (exfalso; omega) | exact ⟨b01_t (by omega), rfl⟩ | exact ⟨b01_f (by omega), rfl⟩
            · refine J_iconst 134 dX9_isAhead_133 rfl ?_
              refine J_goto 151 dX9_isAhead_134 rfl ?_
              refine J_zret dX9_isAhead_151 rfl ?_
              first | (exfalso; omega) | exact ⟨b01_t (by omega), rfl⟩ | exact ⟨b01_f (by omega), rfl⟩
        · refine J_iload_n (i := 3) 90 dX9_isAhead_89 rfl rfl rfl ?_
          refine J_iload 92 dX9_isAhead_90 rfl rfl ?_
          refine J_icmp_ge 99 95 dX9_isAhead_92 rfl rfl (fun c153 => ?_) (fun c153 => ?_)
          · refine J_iconst 100 dX9_isAhead_99 rfl ?_
            refine J_goto 151 dX9_isAhead_100 rfl ?_
            refine J_zret dX9_isAhead_151 rfl ?_
            first | (exfalso; omega) | exact ⟨b01_t (by omega), rfl⟩ | exact ⟨b01_f (by omega), rfl⟩
          · refine J_iconst 96 dX9_isAhead_95 rfl ?_
            refine J_goto 151 dX9_isAhead_96 rfl ?_
            refine J_zret dX9_isAhead_151 rfl ?_
            first | (exfalso; omega) | exact ⟨b01_t (by omega), rfl⟩ | exact ⟨b01_f (by omega), rfl⟩
    · refine J_aload_n (i := 0) 49 dX9_isAhead_48 rfl rfl rfl ?_
      refine J_iload_n (i := 2) 50 dX9_isAhead_49 rfl rfl rfl ?_
      refine J_callVi 53 dX9_isAhead_50 rfl kX9_171 mX9_look rfl rfl rfl (c_X9_look) (by first | decide | omega) rfl rfl (Nat.le_of_ble_eq_true rfl) (fun z155 s156 h154 => ?_)
      obtain ⟨rfl, rfl⟩ := h154
      refine J_ineg 54 dX9_isAhead_53 rfl ?_
      refine J_goto 81 dX9_isAhead_54 rfl ?_
      refine J_istore 83 dX9_isAhead_81 rfl (by decide) ?_
      refine J_iload_n (i := 3) 84 dX9_isAhead_83 rfl rfl rfl ?_
      refine J_iload 86 dX9_isAhead_84 rfl rfl ?_
      refine J_icmp_eq 103 89 dX9_isAhead_86 rfl rfl (fun c157 => ?_) (fun c157 => ?_)
      · refine J_aload_n (i := 0) 104 dX9_isAhead_103 rfl rfl rfl ?_
        refine J_getR 107 dX9_isAhead_104 rfl fX9_25 rfl rfl ?_
        refine J_iload_n (i := 1) 108 dX9_isAhead_107 rfl rfl rfl ?_
        refine J_iald (N := 6) (lo := 0) (hi := 9) 109 dX9_isAhead_108 rfl rfl rfl rfl (fun b158 b159 => ?_)
        refine J_aload_n (i := 0) 110 dX9_isAhead_109 rfl rfl rfl ?_
        refine J_getR 113 dX9_isAhead_110 rfl fX9_25 rfl rfl ?_
        refine J_iload_n (i := 2) 114 dX9_isAhead_113 rfl rfl rfl ?_
        refine J_iald (N := 6) (lo := 0) (hi := 9) 115 dX9_isAhead_114 rfl rfl rfl rfl (fun b160 b161 => ?_)
        refine J_icmp_eq 141 118 dX9_isAhead_115 rfl rfl (fun c162 => ?_) (fun c162 => ?_)
        · refine J_iload_n (i := 1) 142 dX9_isAhead_141 rfl rfl rfl ?_
          refine J_iload_n (i := 2) 143 dX9_isAhead_142 rfl rfl rfl ?_
          refine J_icmp_ge 150 146 dX9_isAhead_143 rfl rfl (fun c163 => ?_) (fun c163 => ?_)
          · refine J_iconst 151 dX9_isAhead_150 rfl ?_
            refine J_zret dX9_isAhead_151 rfl ?_
            first | (exfalso; omega) | exact ⟨b01_t (by omega), rfl⟩ | exact ⟨b01_f (by omega), rfl⟩
          · refine J_iconst 147 dX9_isAhead_146 rfl ?_
            refine J_goto 151 dX9_isAhead_147 rfl ?_
            refine J_zret dX9_isAhead_151 rfl ?_
            first | (exfalso; omega) | exact ⟨b01_t (by omega), rfl⟩ | exact ⟨b01_f (by omega), rfl⟩
        · refine J_aload_n (i := 0) 119 dX9_isAhead_118 rfl rfl rfl ?_
          refine J_getR 122 dX9_isAhead_119 rfl fX9_25 rfl rfl ?_
          refine J_iload_n (i := 1) 123 dX9_isAhead_122 rfl rfl rfl ?_
          refine J_iald (N := 6) (lo := 0) (hi := 9) 124 dX9_isAhead_123 rfl rfl rfl rfl (fun b164 b165 => ?_)
          refine J_aload_n (i := 0) 125 dX9_isAhead_124 rfl rfl rfl ?_
          refine J_getR 128 dX9_isAhead_125 rfl fX9_25 rfl rfl ?_
          refine J_iload_n (i := 2) 129 dX9_isAhead_128 rfl rfl rfl ?_
          refine J_iald (N := 6) (lo := 0) (hi := 9) 130 dX9_isAhead_129 rfl rfl rfl rfl (fun b166 b167 => ?_)
          refine J_icmp_ge 137 133 dX9_isAhead_130 rfl rfl (fun c168 => ?_) (fun c168 => ?_)
          · refine J_iconst 138 dX9_isAhead_137 rfl ?_
            refine J_goto 151 dX9_isAhead_138 rfl ?_
            refine J_zret dX9_isAhead_151 rfl ?_
            first | (exfalso; omega) | exact ⟨b01_t (by omega), rfl⟩ | exact ⟨b01_f (by omega), rfl⟩
          · refine J_iconst 134 dX9_isAhead_133 rfl ?_
            refine J_goto 151 dX9_isAhead_134 rfl ?_
            refine J_zret dX9_isAhead_151 rfl ?_
            first | (exfalso; omega) | exact ⟨b01_t (by omega), rfl⟩ | exact ⟨b01_f (by omega), rfl⟩
      · refine J_iload_n (i := 3) 90 dX9_isAhead_89 rfl rfl rfl ?_
        refine J_iload 92 dX9_isAhead_90 rfl rfl ?_
        refine J_icmp_ge 99 95 dX9_isAhead_92 rfl rfl (fun c169 => ?_) (fun c169 => ?_)
        · refine J_iconst 100 dX9_isAhead_99 rfl ?_
          refine J_goto 151 dX9_isAhead_100 rfl ?_
          refine J_zret dX9_isAhead_151 rfl ?_
          first | (exfalso; omega) | exact ⟨b01_t (by omega), rfl⟩ | exact ⟨b01_f (by omega), rfl⟩
        · refine J_iconst 96 dX9_isAhead_95 rfl ?_
          refine J_goto 151 dX9_isAhead_96 rfl ?_
          refine J_zret dX9_isAhead_151 rfl ?_
          first | (exfalso; omega) | exact ⟨b01_t (by omega), rfl⟩ | exact ⟨b01_f (by omega), rfl⟩
theorem c_X9_goesWithout (hc : 0 ≤ c ∧ c < 6 := by omega) : Ct P 1 yX9_goesWithout cX9_goesWithout 2 (some .boolean) [vr P 36, vi c] σ (rI (b01 (0 < σ 39 c ∧ σ 50 c = 0)) σ) := by
  refine Ct.of _ rfl rfl rfl (Nat.le_of_ble_eq_true rfl) (fun hB => ?_)
  refine J_aload_n (i := 0) 1 dX9_goesWithout_0 rfl rfl rfl ?_
  refine J_getR 4 dX9_goesWithout_1 rfl fX9_16 rfl rfl ?_
  refine J_iload_n (i := 1) 5 dX9_goesWithout_4 rfl rfl rfl ?_
  refine J_iald (N := 6) (lo := 0) (hi := 9) 6 dX9_goesWithout_5 rfl rfl rfl rfl (fun b1 b2 => ?_)
  refine J_if_le 22 9 dX9_goesWithout_6 rfl rfl (fun c3 => ?_) (fun c3 => ?_)
  · refine J_iconst 23 dX9_goesWithout_22 rfl ?_
    refine J_zret dX9_goesWithout_23 rfl ?_
    first | exact ⟨rfl, rfl⟩ | exact rfl | exact ⟨b01_t (by omega), rfl⟩ | exact ⟨b01_f (by omega), rfl⟩ | exact ⟨by omega, rfl⟩
  · refine J_aload_n (i := 0) 10 dX9_goesWithout_9 rfl rfl rfl ?_
    refine J_getR 13 dX9_goesWithout_10 rfl fX9_49 rfl rfl ?_
    refine J_iload_n (i := 1) 14 dX9_goesWithout_13 rfl rfl rfl ?_
    refine J_iald (N := 6) (lo := 0) (hi := 9) 15 dX9_goesWithout_14 rfl rfl rfl rfl (fun b4 b5 => ?_)
    refine J_if_ne 22 18 dX9_goesWithout_15 rfl rfl (fun c6 => ?_) (fun c6 => ?_)
    · refine J_iconst 23 dX9_goesWithout_22 rfl ?_
      refine J_zret dX9_goesWithout_23 rfl ?_
      first | exact ⟨rfl, rfl⟩ | exact rfl | exact ⟨b01_t (by omega), rfl⟩ | exact ⟨b01_f (by omega), rfl⟩ | exact ⟨by omega, rfl⟩
    · refine J_iconst 19 dX9_goesWithout_18 rfl ?_
      refine J_goto 23 dX9_goesWithout_19 rfl ?_
      refine J_zret dX9_goesWithout_23 rfl ?_
      first | exact ⟨rfl, rfl⟩ | exact rfl | exact ⟨b01_t (by omega), rfl⟩ | exact ⟨b01_f (by omega), rfl⟩ | exact ⟨by omega, rfl⟩
set_option maxHeartbeats 4000000 in
theorem l_X9_whoGoWithout : ∀ (k i : Nat) (d r : Int), i + k = (σ 36 2).toNat → d = i → r = setN (fun c => decide (0 < σ 39 c ∧ σ 50 c = 0)) i → J P 2 (RX9, cX9_whoGoWithout, 3, some .int) 4 [some (vr P 36), some (vi r), some (vi d)] [] σ (rI (setN (fun c => decide (0 < σ 39 c ∧ σ 50 c = 0)) (σ 36 2).toNat) σ) := by
  intro k
  induction k with
  | zero =>
    intro i d r hi hd hr
    refine J.bd (fun hB => ?_)
    have hn : 0 ≤ σ 36 2 ∧ σ 36 2 ≤ 6 := hB 36 2
    have hp : (2:Int) ^ d.toNat ≤ 64 ∧ 0 < (2:Int) ^ d.toNat := pow_64 (by omega)
    have hsb := setN_64 (fun c => decide (0 < σ 39 c ∧ σ 50 c = 0)) (n := i) (by omega)
    (
      refine J_iload_n (i := 2) 5 dX9_whoGoWithout_4 rfl rfl rfl ?_
      refine J_aload_n (i := 0) 6 dX9_whoGoWithout_5 rfl rfl rfl ?_
      refine J_getI (jz := 2) (lo := 0) (hi := 6) 9 dX9_whoGoWithout_6 rfl fX9_104 rfl rfl rfl rfl (fun b1 b2 => ?_)
      refine J_icmp_ge 36 12 dX9_whoGoWithout_9 rfl rfl (fun c3 => ?_) (fun c3 => ?_)
      · refine J_iload_n (i := 1) 37 dX9_whoGoWithout_36 rfl rfl rfl ?_
        refine J_iret dX9_whoGoWithout_37 rfl ?_
        refine ⟨?_, rfl⟩
        rw [Nat.add_zero] at hi
        rw [hr, hi]
      · exfalso; omega
    )
  | succ k ih =>
    intro i d r hi hd hr
    refine J.bd (fun hB => ?_)
    have hn : 0 ≤ σ 36 2 ∧ σ 36 2 ≤ 6 := hB 36 2
    have hp : (2:Int) ^ d.toNat ≤ 64 ∧ 0 < (2:Int) ^ d.toNat := pow_64 (by omega)
    have hsb := setN_64 (fun c => decide (0 < σ 39 c ∧ σ 50 c = 0)) (n := i) (by omega)
    (
      refine J_iload_n (i := 2) 5 dX9_whoGoWithout_4 rfl rfl rfl ?_
      refine J_aload_n (i := 0) 6 dX9_whoGoWithout_5 rfl rfl rfl ?_
      refine J_getI (jz := 2) (lo := 0) (hi := 6) 9 dX9_whoGoWithout_6 rfl fX9_104 rfl rfl rfl rfl (fun b1 b2 => ?_)
      refine J_icmp_ge 36 12 dX9_whoGoWithout_9 rfl rfl (fun c3 => ?_) (fun c3 => ?_)
      · exfalso; omega
      · refine J_iload_n (i := 1) 13 dX9_whoGoWithout_12 rfl rfl rfl ?_
        refine J_aload_n (i := 0) 14 dX9_whoGoWithout_13 rfl rfl rfl ?_
        refine J_iload_n (i := 2) 15 dX9_whoGoWithout_14 rfl rfl rfl ?_
        refine J_callVi 18 dX9_whoGoWithout_15 rfl kX9_177 mX9_goesWithout rfl rfl rfl (c_X9_goesWithout) (by first | decide | omega) rfl rfl (Nat.le_of_ble_eq_true rfl) (fun z5 s6 h4 => ?_)
        obtain ⟨rfl, rfl⟩ := h4
        refine J_bif_eq 27 21 dX9_whoGoWithout_18 rfl rfl (fun c7 => ?_) (fun c7 => ?_)
        · refine J_iconst 28 dX9_whoGoWithout_27 rfl ?_
          refine J_ior 29 dX9_whoGoWithout_28 rfl ?_
          refine J_istore_n (i := 1) 30 dX9_whoGoWithout_29 rfl rfl (by decide) ?_
          refine J_iinc 33 dX9_whoGoWithout_30 rfl (by decide) rfl ?_
          refine J_goto 4 dX9_whoGoWithout_33 rfl ?_
          refine ih (i + 1) _ _ (by omega) (by omega) ?_
          subst hd hr
          simp only [setN, Int.toNat_natCast, ior_pow (setN_b _ i)]
          split <;> rename_i hf <;> simp only [decide_eq_true_eq] at hf <;> first | rfl | (exfalso; omega) | (rw [ior_0 (by omega)])
        · refine J_iconst 22 dX9_whoGoWithout_21 rfl ?_
          refine J_iload_n (i := 2) 23 dX9_whoGoWithout_22 rfl rfl rfl ?_
          refine J_ishl1 24 dX9_whoGoWithout_23 rfl ?_
          refine J_goto 28 dX9_whoGoWithout_24 rfl ?_
          refine J_ior 29 dX9_whoGoWithout_28 rfl ?_
          refine J_istore_n (i := 1) 30 dX9_whoGoWithout_29 rfl rfl (by decide) ?_
          refine J_iinc 33 dX9_whoGoWithout_30 rfl (by decide) rfl ?_
          refine J_goto 4 dX9_whoGoWithout_33 rfl ?_
          refine ih (i + 1) _ _ (by omega) (by omega) ?_
          subst hd hr
          simp only [setN, Int.toNat_natCast, ior_pow (setN_b _ i)]
          split <;> rename_i hf <;> simp only [decide_eq_true_eq] at hf <;> first | rfl | (exfalso; omega) | (rw [ior_0 (by omega)])
    )
theorem c_X9_whoGoWithout : Ct P 2 yX9_whoGoWithout cX9_whoGoWithout 3 (some .int) [vr P 36] σ (rI (setN (fun c => decide (0 < σ 39 c ∧ σ 50 c = 0)) (σ 36 2).toNat) σ) := by
  (
    refine Ct.of _ rfl rfl rfl (Nat.le_of_ble_eq_true rfl) (fun hB => ?_)
    refine J_iconst 1 dX9_whoGoWithout_0 rfl ?_
    refine J_istore_n (i := 1) 2 dX9_whoGoWithout_1 rfl rfl (by decide) ?_
    refine J_iconst 3 dX9_whoGoWithout_2 rfl ?_
    refine J_istore_n (i := 2) 4 dX9_whoGoWithout_3 rfl rfl (by decide) ?_
    exact l_X9_whoGoWithout  _ 0 _ _ (Nat.zero_add _) rfl rfl
  )
end

