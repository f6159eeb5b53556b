/-! ===== odds, winters more, settling, parting ===== -/
def setMC (v : jS) (m ch : Int) : jS := jup (jup v 0 2 m) 0 3 ch
def wayF (v : jS) (c x : Int) : Int := if 0 < eatsM (setMC v (x / 10) (x % 10)) c then 1 else 0
def gdN (a b : Int) : Nat → Int
  | 0 => 1
  | 1 => 1
  | d + 2 => if a % ((d : Int) + 2) = 0 ∧ b % ((d : Int) + 2) = 0 then (d : Int) + 2 else gdN a b (d + 1)
theorem gdN_b (a b : Int) : ∀ d : Nat, 1 ≤ gdN a b d ∧ (gdN a b d ≤ 1 ∨ gdN a b d ≤ d) := by
  intro d
  match d with
  | 0 => simp [gdN]
  | 1 => simp [gdN]
  | d + 2 =>
    have ih := gdN_b a b (d + 1)
    simp only [gdN]
    split <;> omega
def oddsM (v : jS) (c w : Int) : Int := if w = 0 then sumN (wayF v c) 30 / gdN (sumN (wayF v c) 30) 30 30 else 30 / gdN (sumN (wayF v c) 30) 30 30
theorem setMC_eq (v : jS) (m ch a b : Int) : jup (jup (setMC v a b) 0 2 m) 0 3 ch = setMC v m ch := by
  funext k j
  unfold setMC jup
  by_cases h : k = 0
  · simp only [if_pos h]
    by_cases h3 : j = 3
    · simp only [if_pos h3]
    · simp only [if_neg h3]
      by_cases h2 : j = 2
      · simp only [if_pos h2]
      · simp only [if_neg h2]
  · simp only [if_neg h]
theorem setMC_B {v : jS} (h : wvB v) {m ch : Int} (hm : 0 ≤ m ∧ m ≤ 2) (hc : 0 ≤ ch ∧ ch ≤ 9) : wvB (setMC v m ch) :=
  wvB_up (wvB_up h (i := 0) (j := 2) (z := m) (fun _ => ⟨by omega, by omega, by omega, by omega⟩) (by omega) (by omega) (by omega) (by omega) (by omega) (by omega)) (i := 0) (j := 3) (z := ch) (fun _ => ⟨by omega, by omega, by omega, by omega⟩) (by omega) (by omega) (by omega) (by omega) (by omega) (by omega)
theorem wayF_b (v : jS) (c x : Int) : 0 ≤ wayF v c x ∧ wayF v c x ≤ 1 := by unfold wayF; split <;> omega
section
variable {P : jP} {a b c d g x y z n s i k l : Int} {σ τ v : jS}
set_option maxHeartbeats 4000000 in
theorem l_X8_waysB (hc : 0 ≤ c ∧ c < 6) (hvB : wvB (vC σ 1)) {m : Nat} (hm : m ≤ 2) {Q : Option Value → jS → Prop} (hK : ∀ (r : Int) (τ : jS), r = sumN (wayF (vC σ 1) c) (10 * m + 10) → (∀ x y, jup (jup (vC τ 8) 0 2 x) 0 3 y = setMC (vC σ 1) x y) → F8 σ τ → J P 5 (RX8, cX8_waysToEat, 5, some .int) 67 [some (vr P 0), some (vi c), some (vi r), some (vi (m : Int)), none] [] τ Q) : ∀ (k i : Nat) (d r : Int) (τ : jS), i + k = 10 → d = i → r = sumN (wayF (vC σ 1) c) (10 * m + i) → (∀ y, jup (vC τ 8) 0 3 y = setMC (vC σ 1) m y) → F8 σ τ → J P 5 (RX8, cX8_waysToEat, 5, some .int) 31 [some (vr P 0), some (vi c), some (vi r), some (vi (m : Int)), some (vi d)] [] τ Q := by
  intro k
  induction k with
  | zero =>
    intro i d r τ hi hd hr hv hF
    rw [Nat.add_zero] at hi
    refine J_iload 33 dX8_waysToEat_31 rfl rfl ?_
    refine J_bipush 35 dX8_waysToEat_33 rfl (by decide) ?_
    refine J_icmp_gt 67 38 dX8_waysToEat_35 rfl rfl (fun c1 => ?_) (fun c1 => ?_)
    · refine J.wk (hK r τ (by rw [hr, hi]) (fun x y => ?_) hF) ⟨rfl, rfl, rfl, rfl, trivial⟩
      have e := congrArg (fun q => jup (jup q 0 2 x) 0 3 y) (hv 0)
      rw [← setMC_eq (vC σ 1) x y m 0]
      refine Eq.trans ?_ e
      funext k2 j2
      by_cases h0 : k2 = 0
      · by_cases h3 : j2 = 3
        · simp [jup, h0, h3]
        · by_cases h2 : j2 = 2
          · simp [jup, h0, h2]
          · simp [jup, h0, h3, h2]
      · simp [jup, h0]
    · exfalso; omega
  | succ k ih =>
    intro i d r τ hi hd hr hv hF
    have e1 : vC (jup τ 8 3 d) 8 = setMC (vC σ 1) m d := (vC_up τ 8 0 3 d (by omega)).trans (hv d)
    have hF2 : F8 σ (jup τ 8 3 d) := fun q hq => by rw [← hF q hq]; funext j; unfold jup; rw [if_neg (by omega)]
    have hv2 : ∀ y, jup (vC (jup τ 8 3 d) 8) 0 3 y = setMC (vC σ 1) m y := fun y => by rw [e1]; unfold setMC; rw [jup_same]
    have hb2 := setMC_B hvB (m := m) (ch := d) (by omega) (by omega)
    have heb2 := eatsM_b hb2 c
    have hrb := sumN_b (wayF_b (vC σ 1) c) (10 * m + i)
    have hst : sumN (wayF (vC σ 1) c) (10 * m + (i + 1)) = if 0 < eatsM (setMC (vC σ 1) m d) c then r + 1 else r := by
      show sumN (wayF (vC σ 1) c) (10 * m + i) + wayF (vC σ 1) c ((10 * m + i : Nat) : Int) = _
      have e3 : ((10 * m + i : Nat) : Int) / 10 = m := by omega
      have e4 : ((10 * m + i : Nat) : Int) % 10 = d := by omega
      have e5 : wayF (vC σ 1) c ((10 * m + i : Nat) : Int) = if 0 < eatsM (setMC (vC σ 1) m d) c then 1 else 0 := by
        unfold wayF
        rw [e3, e4]
      rw [← hr, e5]
      split <;> omega
    refine J_iload 33 dX8_waysToEat_31 rfl rfl ?_
    refine J_bipush 35 dX8_waysToEat_33 rfl (by decide) ?_
    refine J_icmp_gt 67 38 dX8_waysToEat_35 rfl rfl (fun c1 => ?_) (fun c1 => ?_)
    · exfalso; omega
    · refine J_aload_n (i := 0) 39 dX8_waysToEat_38 rfl rfl rfl ?_
      refine J_getR 42 dX8_waysToEat_39 rfl fX8_18 rfl rfl ?_
      refine J_iload 44 dX8_waysToEat_42 rfl rfl ?_
      refine J_putI (jz := 3) (lo := 0) (hi := 9) 47 dX8_waysToEat_44 rfl gX8_169 rfl rfl rfl rfl ?_
      refine J_aload_n (i := 0) 48 dX8_waysToEat_47 rfl rfl rfl ?_
      refine J_getR 51 dX8_waysToEat_48 rfl fX8_18 rfl rfl ?_
      refine J_iload_n (i := 1) 52 dX8_waysToEat_51 rfl rfl rfl ?_
      refine J_callVi 55 dX8_waysToEat_52 rfl kX8_131 mX7_eats rfl rfl rfl (c_X7_eats) (by first | decide | omega) rfl rfl (Nat.le_of_ble_eq_true rfl) (fun z3 s4 h2 => ?_)
      obtain ⟨rfl, rfl⟩ := h2
      rw [e1]
      refine J_if_le 61 58 dX8_waysToEat_55 rfl rfl (fun c5 => ?_) (fun c5 => ?_)
      · refine J_iinc 64 dX8_waysToEat_61 rfl (by decide) rfl ?_
        refine J_goto 31 dX8_waysToEat_64 rfl ?_
        refine ih (i + 1) _ _ _ (by omega) (by omega) ?_ hv2 hF2
        rw [hst]
        first | (rw [if_pos (by omega)]; done) | (rw [if_neg (by omega)]; done)
      · refine J_iinc 61 dX8_waysToEat_58 rfl (by decide) rfl ?_
        refine J_iinc 64 dX8_waysToEat_61 rfl (by decide) rfl ?_
        refine J_goto 31 dX8_waysToEat_64 rfl ?_
        refine ih (i + 1) _ _ _ (by omega) (by omega) ?_ hv2 hF2
        rw [hst]
        first | (rw [if_pos (by omega)]; done) | (rw [if_neg (by omega)]; done)
set_option maxHeartbeats 4000000 in
theorem l_X8_waysA (hc : 0 ≤ c ∧ c < 6) (hvB : wvB (vC σ 1)) : ∀ (k i : Nat) (d r : Int) (τ : jS), i + k = 3 → d = i → r = sumN (wayF (vC σ 1) c) (10 * i) → (∀ x y, jup (jup (vC τ 8) 0 2 x) 0 3 y = setMC (vC σ 1) x y) → F8 σ τ → J P 5 (RX8, cX8_waysToEat, 5, some .int) 15 [some (vr P 0), some (vi c), some (vi r), some (vi d), none] [] τ (qi fun z σ' => sumN (wayF (vC σ 1) c) 30 = z ∧ F8 σ σ') := by
  intro k
  induction k with
  | zero =>
    intro i d r τ hi hd hr hv hF
    rw [Nat.add_zero] at hi
    refine J_iload_n (i := 3) 16 dX8_waysToEat_15 rfl rfl rfl ?_
    refine J_iconst 17 dX8_waysToEat_16 rfl ?_
    refine J_icmp_ge 73 20 dX8_waysToEat_17 rfl rfl (fun c1 => ?_) (fun c1 => ?_)
    · refine J_iload_n (i := 2) 74 dX8_waysToEat_73 rfl rfl rfl ?_
      refine J_iret dX8_waysToEat_74 rfl ?_
      exact ⟨by rw [hr, hi], hF⟩
    · exfalso; omega
  | succ k ih =>
    intro i d r τ hi hd hr hv hF
    subst hd
    have hF2 : F8 σ (jup τ 8 2 i) := fun q hq => by rw [← hF q hq]; funext j; unfold jup; rw [if_neg (by omega)]
    have hv2 : ∀ y, jup (vC (jup τ 8 2 i) 8) 0 3 y = setMC (vC σ 1) i y := fun y => by rw [← hv i y]; exact congrArg (fun q => jup q 0 3 y) (vC_up τ 8 0 2 i (by omega))
    refine J_iload_n (i := 3) 16 dX8_waysToEat_15 rfl rfl rfl ?_
    refine J_iconst 17 dX8_waysToEat_16 rfl ?_
    refine J_icmp_ge 73 20 dX8_waysToEat_17 rfl rfl (fun c1 => ?_) (fun c1 => ?_)
    · exfalso; omega
    · refine J_aload_n (i := 0) 21 dX8_waysToEat_20 rfl rfl rfl ?_
      refine J_getR 24 dX8_waysToEat_21 rfl fX8_18 rfl rfl ?_
      refine J_iload_n (i := 3) 25 dX8_waysToEat_24 rfl rfl rfl ?_
      refine J_putI (jz := 2) (lo := 0) (hi := 2) 28 dX8_waysToEat_25 rfl gX8_166 rfl rfl rfl rfl ?_
      refine J_iconst 29 dX8_waysToEat_28 rfl ?_
      refine J_istore 31 dX8_waysToEat_29 rfl (by decide) ?_
      refine l_X8_waysB hc hvB (m := i) (by omega) (fun r2 τ2 g1 g2 g3 => ?_) 10 0 0 r _ rfl rfl hr hv2 hF2
      refine J_iinc 70 dX8_waysToEat_67 rfl (by decide) rfl ?_
      refine J_goto 15 dX8_waysToEat_70 rfl ?_
      exact ih (i + 1) _ _ _ (by omega) (by omega) (by rw [g1]; rfl) g2 g3
theorem c_X8_waysToEat (hc : 0 ≤ c ∧ c < 6 := by omega) : Ct P 5 yX8_waysToEat cX8_waysToEat 5 (some .int) [vr P 0, vi c] σ (qi fun z σ' => sumN (wayF (vC σ 1) c) 30 = z ∧ F8 σ σ') := by
  refine Ct.bd (fun hB => ?_)
  have hvB := vC_B hB (w := 1) (Or.inl rfl)
  refine Ct.of _ rfl rfl rfl (Nat.le_of_ble_eq_true rfl) (fun hB => ?_)
  refine J_aload_n (i := 0) 1 dX8_waysToEat_0 rfl rfl rfl ?_
  refine J_getR 4 dX8_waysToEat_1 rfl fX8_18 rfl rfl ?_
  refine J_aload_n (i := 0) 5 dX8_waysToEat_4 rfl rfl rfl ?_
  refine J_getR 8 dX8_waysToEat_5 rfl fX8_14 rfl rfl ?_
  refine J_callVv 11 dX8_waysToEat_8 rfl kX8_96 mX7_become rfl rfl rfl (c_X7_become) (by first | decide | omega) rfl rfl (Nat.le_of_ble_eq_true rfl) (fun s3 h1 => ?_)
  obtain rfl := h1
  refine J_iconst 12 dX8_waysToEat_11 rfl ?_
  refine J_istore_n (i := 2) 13 dX8_waysToEat_12 rfl rfl (by decide) ?_
  refine J_iconst 14 dX8_waysToEat_13 rfl ?_
  refine J_istore_n (i := 3) 15 dX8_waysToEat_14 rfl rfl (by decide) ?_
  exact l_X8_waysA hc hvB 3 0 _ _ _ rfl rfl rfl (fun x y => by rw [vC_bec]; rfl) (F8_bec σ)
set_option maxHeartbeats 4000000 in
theorem l_X8_greatestDivisor (ha : 0 ≤ a ∧ a ≤ 30) (hb : 0 ≤ b ∧ b ≤ 30) : ∀ (k : Nat) (d : Int), d = k → k ≤ 30 → J P 1 (RX8, cX8_greatestDivisor, 3, some .int) 2 [some (vi a), some (vi b), some (vi d)] [] σ (rI (gdN a b k) σ) := by
  intro k
  induction k with
  | zero =>
    intro d hd hk
    refine J_iload_n (i := 2) 3 dX8_greatestDivisor_2 rfl rfl rfl ?_
    refine J_iconst 4 dX8_greatestDivisor_3 rfl ?_
    refine J_icmp_le 27 7 dX8_greatestDivisor_4 rfl rfl (fun c1 => ?_) (fun c1 => ?_)
    · refine J_iconst 28 dX8_greatestDivisor_27 rfl ?_
      refine J_iret dX8_greatestDivisor_28 rfl ?_
      exact ⟨rfl, rfl⟩
    · exfalso; omega
  | succ k ih =>
    intro d hd hk
    have h2 : 2 ≤ d → gdN a b (k + 1) = if a % d = 0 ∧ b % d = 0 then d else gdN a b k := by
      intro h
      obtain ⟨k2, rfl⟩ : ∃ k2, k = k2 + 1 := ⟨k - 1, by omega⟩
      have e : ((k2 : Int) + 2) = d := by omega
      simp only [gdN]
      rw [e]
    have h1 : d ≤ 1 → gdN a b (k + 1) = 1 := by
      intro h
      rw [show k = 0 by omega]
      rfl
    have hm1 : 1 < d → 0 ≤ a % d ∧ a % d < d := fun h => ⟨Int.emod_nonneg _ (by omega), Int.emod_lt_of_pos _ (by omega)⟩
    have hm2 : 1 < d → 0 ≤ b % d ∧ b % d < d := fun h => ⟨Int.emod_nonneg _ (by omega), Int.emod_lt_of_pos _ (by omega)⟩
    refine J_iload_n (i := 2) 3 dX8_greatestDivisor_2 rfl rfl rfl ?_
    refine J_iconst 4 dX8_greatestDivisor_3 rfl ?_
    refine J_icmp_le 27 7 dX8_greatestDivisor_4 rfl rfl (fun c1 => ?_) (fun c1 => ?_)
    · refine J_iconst 28 dX8_greatestDivisor_27 rfl ?_
      refine J_iret dX8_greatestDivisor_28 rfl ?_
      exact ⟨h1 (by omega), rfl⟩
    · have hm1 := hm1 (by omega)
      have hm2 := hm2 (by omega)
      have h2 := h2 (by omega)
      refine J_iload_n (i := 0) 8 dX8_greatestDivisor_7 rfl rfl rfl ?_
      refine J_iload_n (i := 2) 9 dX8_greatestDivisor_8 rfl rfl rfl ?_
      refine J_irem 10 dX8_greatestDivisor_9 rfl ?_
      refine J_if_ne 21 13 dX8_greatestDivisor_10 rfl rfl (fun c2 => ?_) (fun c2 => ?_)
      · refine J_iinc 24 dX8_greatestDivisor_21 rfl (by decide) rfl ?_
        refine J_goto 2 dX8_greatestDivisor_24 rfl ?_
        rw [h2, if_neg (by omega)]
        exact ih _ (by omega) (by omega)
      · refine J_iload_n (i := 1) 14 dX8_greatestDivisor_13 rfl rfl rfl ?_
        refine J_iload_n (i := 2) 15 dX8_greatestDivisor_14 rfl rfl rfl ?_
        refine J_irem 16 dX8_greatestDivisor_15 rfl ?_
        refine J_if_ne 21 19 dX8_greatestDivisor_16 rfl rfl (fun c3 => ?_) (fun c3 => ?_)
        · refine J_iinc 24 dX8_greatestDivisor_21 rfl (by decide) rfl ?_
          refine J_goto 2 dX8_greatestDivisor_24 rfl ?_
          rw [h2, if_neg (by omega)]
          exact ih _ (by omega) (by omega)
        · refine J_iload_n (i := 2) 20 dX8_greatestDivisor_19 rfl rfl rfl ?_
          refine J_iret dX8_greatestDivisor_20 rfl ?_
          refine ⟨?_, rfl⟩
          rw [h2, if_pos (by omega)]
theorem c_X8_greatestDivisor (ha : 0 ≤ a ∧ a ≤ 30 := by omega) (hb : 0 ≤ b ∧ b ≤ 30 := by omega) : Ct P 1 yX8_greatestDivisor cX8_greatestDivisor 3 (some .int) [vi a, vi b] σ (rI (gdN a b b.toNat) σ) := by
  refine Ct.of _ rfl rfl rfl (Nat.le_of_ble_eq_true rfl) (fun hB => ?_)
  refine J_iload_n (i := 1) 1 dX8_greatestDivisor_0 rfl rfl rfl ?_
  refine J_istore_n (i := 2) 2 dX8_greatestDivisor_1 rfl rfl (by decide) ?_
  exact l_X8_greatestDivisor ha hb b.toNat _ (by omega) (by omega)
theorem c_X8_odds (hc : inR c) (hx : inR x) : Ct P 6 yX8_odds cX8_odds 6 (some .long) [vr P 0, vi c, vi x] σ (ql fun z σ' => (if ¬ ((0 ≤ c ∧ c < σ 1 1) ∧ 0 ≤ x ∧ x ≤ 1) then -9223372036854775808 else oddsM (vC σ 1) c x) = z ∧ F8 σ σ') := by
  refine Ct.bd (fun hB => ?_)
  have hn := vC_n hB (w := 1) (Or.inl rfl)
  have hrb := sumN_b (wayF_b (vC σ 1) c) 30
  have hgb := gdN_b (sumN (wayF (vC σ 1) c) 30) 30 30
  have hd1 : sumN (wayF (vC σ 1) c) 30 / gdN (sumN (wayF (vC σ 1) c) 30) 30 30 ≤ 30 ∧ 0 ≤ sumN (wayF (vC σ 1) c) 30 / gdN (sumN (wayF (vC σ 1) c) 30) 30 30 := ⟨Int.le_trans (Int.ediv_le_self _ (by omega)) (by omega), Int.ediv_nonneg (by omega) (by omega)⟩
  have hd2 : 30 / gdN (sumN (wayF (vC σ 1) c) 30) 30 30 ≤ 30 ∧ 0 ≤ 30 / gdN (sumN (wayF (vC σ 1) c) 30) 30 30 := ⟨Int.ediv_le_self _ (by omega), Int.ediv_nonneg (by omega) (by omega)⟩
  have e30 : (30 : Int).toNat = 30 := rfl
  refine Ct.of _ rfl rfl rfl (Nat.le_of_ble_eq_true rfl) (fun hB => ?_)
  refine J_aload_n (i := 0) 1 dX8_odds_0 rfl rfl rfl ?_
  refine J_getR 4 dX8_odds_1 rfl fX8_14 rfl rfl ?_
  refine J_iload_n (i := 1) 5 dX8_odds_4 rfl rfl rfl ?_
  refine J_callVi 8 dX8_odds_5 rfl kX8_109 mX7_hasComer rfl rfl rfl (c_X7_hasComer) (by first | decide | omega) rfl rfl (Nat.le_of_ble_eq_true rfl) (fun z2 s3 h1 => ?_)
  obtain ⟨rfl, rfl⟩ := h1
  refine J_bif_eq 20 11 dX8_odds_8 rfl rfl (fun c4 => ?_) (fun c4 => ?_)
  · refine J_ldc2 23 dX8_odds_20 rfl cstX8_248 ?_
    refine J_lret dX8_odds_23 rfl ?_
    exact ⟨if_pos (by omega), fun _ _ => rfl⟩
  · refine J_iload_n (i := 2) 12 dX8_odds_11 rfl rfl rfl ?_
    refine J_if_lt 20 15 dX8_odds_12 rfl rfl (fun c5 => ?_) (fun c5 => ?_)
    · refine J_ldc2 23 dX8_odds_20 rfl cstX8_248 ?_
      refine J_lret dX8_odds_23 rfl ?_
      exact ⟨if_pos (by omega), fun _ _ => rfl⟩
    · refine J_iload_n (i := 2) 16 dX8_odds_15 rfl rfl rfl ?_
      refine J_iconst 17 dX8_odds_16 rfl ?_
      refine J_icmp_le 24 20 dX8_odds_17 rfl rfl (fun c6 => ?_) (fun c6 => ?_)
      · refine J_bipush 26 dX8_odds_24 rfl (by decide) ?_
        refine J_istore_n (i := 3) 27 dX8_odds_26 rfl rfl (by decide) ?_
        refine J_aload_n (i := 0) 28 dX8_odds_27 rfl rfl rfl ?_
        refine J_iload_n (i := 1) 29 dX8_odds_28 rfl rfl rfl ?_
        refine J_callVi 32 dX8_odds_29 rfl kX8_250 mX8_waysToEat rfl rfl rfl (c_X8_waysToEat) (by first | decide | omega) rfl rfl (Nat.le_of_ble_eq_true rfl) (fun z8 s9 h7 => ?_)
        obtain ⟨rfl, f1⟩ := h7
        refine J_istore 34 dX8_odds_32 rfl (by decide) ?_
        refine J_iload 36 dX8_odds_34 rfl rfl ?_
        refine J_iload_n (i := 3) 37 dX8_odds_36 rfl rfl rfl ?_
        refine J_callSi 40 dX8_odds_37 rfl kX8_253 mX8_greatestDivisor (c_X8_greatestDivisor) (by first | decide | omega) rfl rfl (Nat.le_of_ble_eq_true rfl) (fun z11 s12 h10 => ?_)
        obtain ⟨rfl, rfl⟩ := h10
        rw [e30]
        refine J_istore 42 dX8_odds_40 rfl (by decide) ?_
        refine J_iload_n (i := 2) 43 dX8_odds_42 rfl rfl rfl ?_
        refine J_if_ne 55 46 dX8_odds_43 rfl rfl (fun c13 => ?_) (fun c13 => ?_)
        · refine J_iload_n (i := 3) 56 dX8_odds_55 rfl rfl rfl ?_
          refine J_iload 58 dX8_odds_56 rfl rfl ?_
          refine J_idiv 59 dX8_odds_58 rfl ?_
          refine J_i2l 60 dX8_odds_59 rfl ?_
          refine J_lret dX8_odds_60 rfl ?_
          refine ⟨?_, f1⟩
          rw [if_neg (by omega)]
          unfold oddsM
          first | (rw [if_pos (by omega)]; done) | (rw [if_neg (by omega)]; done)
        · refine J_iload 48 dX8_odds_46 rfl rfl ?_
          refine J_iload 50 dX8_odds_48 rfl rfl ?_
          refine J_idiv 51 dX8_odds_50 rfl ?_
          refine J_i2l 52 dX8_odds_51 rfl ?_
          refine J_goto 60 dX8_odds_52 rfl ?_
          refine J_lret dX8_odds_60 rfl ?_
          refine ⟨?_, f1⟩
          rw [if_neg (by omega)]
          unfold oddsM
          first | (rw [if_pos (by omega)]; done) | (rw [if_neg (by omega)]; done)
      · refine J_ldc2 23 dX8_odds_20 rfl cstX8_248 ?_
        refine J_lret dX8_odds_23 rfl ?_
        exact ⟨if_pos (by omega), fun _ _ => rfl⟩
theorem itV_4 (v : jS) (t : Nat) : itV v t = jset v 4 (itV v t 4) := by
  induction t with
  | zero =>
    funext k j
    unfold jset itV
    split
    · rename_i h; rw [h]
    · rfl
  | succ t ih =>
    funext k j
    show passV (itV v t) k j = jset v 4 (passV (itV v t) 4) k j
    unfold passV jset
    by_cases h : k = 4
    · rw [if_pos h, if_pos h, if_pos rfl]
    · rw [if_neg h, if_neg h, ih]
      unfold jset
      rw [if_neg h]
set_option maxHeartbeats 4000000 in
theorem l_X8_more {n : Nat} (hn : 1 ≤ n ∧ n ≤ 99) : ∀ (k i : Nat) (d : Int) (τ : jS), i + k = n → d = i → τ = jset σ 5 (itV (vC σ 1) i 4) → J P 6 (RX8, cX8_more, 3, some .int) 29 [some (vr P 0), some (vi (n : Int)), some (vi d)] [] τ (rI (popM (starvM (itV (vC σ 1) n))) (jset σ 5 (itV (vC σ 1) n 4))) := by
  intro k
  induction k with
  | zero =>
    intro i d τ hi hd hτ
    rw [Nat.add_zero] at hi
    have e1 : vC τ 1 = itV (vC σ 1) n := by rw [hτ, show (5 : Nat) = 1 + 4 from rfl, vC_set _ _ _ _ (by omega), hi]; exact (itV_4 _ _).symm
    refine J.bd (fun hB => ?_)
    have hvB := vC_B hB (w := 1) (Or.inl rfl)
    rw [e1] at hvB
    have hsb := starvM_b hvB
    refine J_iload_n (i := 2) 30 dX8_more_29 rfl rfl rfl ?_
    refine J_iload_n (i := 1) 31 dX8_more_30 rfl rfl rfl ?_
    refine J_icmp_ge 47 34 dX8_more_31 rfl rfl (fun c1 => ?_) (fun c1 => ?_)
    · refine J_aload_n (i := 0) 48 dX8_more_47 rfl rfl rfl ?_
      refine J_getR 51 dX8_more_48 rfl fX8_14 rfl rfl ?_
      refine J_callVi 54 dX8_more_51 rfl kX8_134 mX7_starving rfl rfl rfl (c_X7_starving) (by first | decide | omega) rfl rfl (Nat.le_of_ble_eq_true rfl) (fun z3 s4 h2 => ?_)
      obtain ⟨rfl, rfl⟩ := h2
      rw [e1]
      refine J_callSi 57 dX8_more_54 rfl kX8_236 mJ6_bitCount_0f7a4 (c_J6_bitCount_0f7a4) (by first | decide | omega) rfl rfl (Nat.le_of_ble_eq_true rfl) (fun z6 s7 h5 => ?_)
      obtain ⟨rfl, rfl⟩ := h5
      refine J_iret dX8_more_57 rfl ?_
      exact ⟨rfl, by rw [hτ, hi]⟩
    · exfalso; omega
  | succ k ih =>
    intro i d τ hi hd hτ
    have e1 : vC τ 1 = itV (vC σ 1) i := by rw [hτ, show (5 : Nat) = 1 + 4 from rfl, vC_set _ _ _ _ (by omega)]; exact (itV_4 _ _).symm
    have e2 : jset τ (1 + 4) (passN (vC τ 1) (nM (vC τ 1))) = jset σ 5 (itV (vC σ 1) (i + 1) 4) := by
      rw [e1, hτ, show (5 : Nat) = 1 + 4 from rfl, jset_set]
      congr 1
    refine J_iload_n (i := 2) 30 dX8_more_29 rfl rfl rfl ?_
    refine J_iload_n (i := 1) 31 dX8_more_30 rfl rfl rfl ?_
    refine J_icmp_ge 47 34 dX8_more_31 rfl rfl (fun c1 => ?_) (fun c1 => ?_)
    · exfalso; omega
    · refine J_aload_n (i := 0) 35 dX8_more_34 rfl rfl rfl ?_
      refine J_getR 38 dX8_more_35 rfl fX8_14 rfl rfl ?_
      refine J_callVv 41 dX8_more_38 rfl kX8_233 mX7_passOn rfl rfl rfl (c_X7_passOn) (by first | decide | omega) rfl rfl (Nat.le_of_ble_eq_true rfl) (fun s4 h2 => ?_)
      obtain rfl := h2
      refine J_iinc 44 dX8_more_41 rfl (by decide) rfl ?_
      refine J_goto 29 dX8_more_44 rfl ?_
      exact ih (i + 1) _ _ (by omega) (by omega) e2
theorem c_X8_more (hx : inR x) : Ct P 6 yX8_more cX8_more 3 (some .int) [vr P 0, vi x] σ (rI (if ¬ (1 ≤ x ∧ x ≤ 99) then -2 else if ¬ 0 < σ 1 1 then -3 else popM (starvM (itV (vC σ 1) x.toNat))) (if (1 ≤ x ∧ x ≤ 99) ∧ 0 < σ 1 1 then jset σ 5 (itV (vC σ 1) x.toNat 4) else σ)) := by
  have h0 : σ = jset σ 5 (itV (vC σ 1) 0 4) := by
    funext k j
    unfold jset
    split
    · rename_i h; rw [h]; rfl
    · rfl
  refine Ct.of _ rfl rfl rfl (Nat.le_of_ble_eq_true rfl) (fun hB => ?_)
  refine J_iload_n (i := 1) 1 dX8_more_0 rfl rfl rfl ?_
  refine J_iconst 2 dX8_more_1 rfl ?_
  refine J_icmp_lt 11 5 dX8_more_2 rfl rfl (fun c1 => ?_) (fun c1 => ?_)
  · refine J_bipush 13 dX8_more_11 rfl (by decide) ?_
    refine J_iret dX8_more_13 rfl ?_
    refine ⟨?_, ?_⟩
    · first | rfl | (rw [if_pos (by omega)]; done) | (rw [if_neg (by omega)]; done) | (rw [if_neg (by omega), if_pos (by omega)]; done) | (rw [if_neg (by omega), if_neg (by omega)]; done) | (rw [if_neg (by omega), if_neg (by omega), if_pos (by omega)]; done) | (rw [if_neg (by omega), if_neg (by omega), if_neg (by omega)]; done) | (rw [if_neg (by omega), if_neg (by omega), if_neg (by omega), if_pos (by omega)]; done) | (rw [if_neg (by omega), if_neg (by omega), if_neg (by omega), if_neg (by omega)]; done)
    · first | rfl | (rw [if_pos (by omega)]; done) | (rw [if_neg (by omega)]; done) | (rw [if_neg (by omega), if_pos (by omega)]; done) | (rw [if_neg (by omega), if_neg (by omega)]; done) | (rw [if_neg (by omega), if_neg (by omega), if_pos (by omega)]; done) | (rw [if_neg (by omega), if_neg (by omega), if_neg (by omega)]; done) | (rw [if_neg (by omega), if_neg (by omega), if_neg (by omega), if_pos (by omega)]; done) | (rw [if_neg (by omega), if_neg (by omega), if_neg (by omega), if_neg (by omega)]; done)
  · refine J_iload_n (i := 1) 6 dX8_more_5 rfl rfl rfl ?_
    refine J_bipush 8 dX8_more_6 rfl (by decide) ?_
    refine J_icmp_le 14 11 dX8_more_8 rfl rfl (fun c2 => ?_) (fun c2 => ?_)
    · refine J_aload_n (i := 0) 15 dX8_more_14 rfl rfl rfl ?_
      refine J_getR 18 dX8_more_15 rfl fX8_14 rfl rfl ?_
      refine J_callVi 21 dX8_more_18 rfl kX8_162 mX7_stands rfl rfl rfl (c_X7_stands) (by first | decide | omega) rfl rfl (Nat.le_of_ble_eq_true rfl) (fun z4 s5 h3 => ?_)
      obtain ⟨rfl, rfl⟩ := h3
      refine J_bif_ne 27 24 dX8_more_21 rfl rfl (fun c6 => ?_) (fun c6 => ?_)
      · refine J_iconst 28 dX8_more_27 rfl ?_
        refine J_istore_n (i := 2) 29 dX8_more_28 rfl rfl (by decide) ?_
        rw [if_neg (by omega), if_neg (by omega), if_pos (by omega)]
        have hmain := l_X8_more (P := P) (σ := σ) (n := x.toNat) (by omega) x.toNat 0 0 _ (Nat.zero_add _) rfl h0
        rw [show ((x.toNat : Nat) : Int) = x by omega] at hmain
        exact hmain
      · refine J_bipush 26 dX8_more_24 rfl (by decide) ?_
        refine J_iret dX8_more_26 rfl ?_
        refine ⟨?_, ?_⟩
        · first | rfl | (rw [if_pos (by omega)]; done) | (rw [if_neg (by omega)]; done) | (rw [if_neg (by omega), if_pos (by omega)]; done) | (rw [if_neg (by omega), if_neg (by omega)]; done) | (rw [if_neg (by omega), if_neg (by omega), if_pos (by omega)]; done) | (rw [if_neg (by omega), if_neg (by omega), if_neg (by omega)]; done) | (rw [if_neg (by omega), if_neg (by omega), if_neg (by omega), if_pos (by omega)]; done) | (rw [if_neg (by omega), if_neg (by omega), if_neg (by omega), if_neg (by omega)]; done)
        · first | rfl | (rw [if_pos (by omega)]; done) | (rw [if_neg (by omega)]; done) | (rw [if_neg (by omega), if_pos (by omega)]; done) | (rw [if_neg (by omega), if_neg (by omega)]; done) | (rw [if_neg (by omega), if_neg (by omega), if_pos (by omega)]; done) | (rw [if_neg (by omega), if_neg (by omega), if_neg (by omega)]; done) | (rw [if_neg (by omega), if_neg (by omega), if_neg (by omega), if_pos (by omega)]; done) | (rw [if_neg (by omega), if_neg (by omega), if_neg (by omega), if_neg (by omega)]; done)
    · refine J_bipush 13 dX8_more_11 rfl (by decide) ?_
      refine J_iret dX8_more_13 rfl ?_
      refine ⟨?_, ?_⟩
      · first | rfl | (rw [if_pos (by omega)]; done) | (rw [if_neg (by omega)]; done) | (rw [if_neg (by omega), if_pos (by omega)]; done) | (rw [if_neg (by omega), if_neg (by omega)]; done) | (rw [if_neg (by omega), if_neg (by omega), if_pos (by omega)]; done) | (rw [if_neg (by omega), if_neg (by omega), if_neg (by omega)]; done) | (rw [if_neg (by omega), if_neg (by omega), if_neg (by omega), if_pos (by omega)]; done) | (rw [if_neg (by omega), if_neg (by omega), if_neg (by omega), if_neg (by omega)]; done)
      · first | rfl | (rw [if_pos (by omega)]; done) | (rw [if_neg (by omega)]; done) | (rw [if_neg (by omega), if_pos (by omega)]; done) | (rw [if_neg (by omega), if_neg (by omega)]; done) | (rw [if_neg (by omega), if_neg (by omega), if_pos (by omega)]; done) | (rw [if_neg (by omega), if_neg (by omega), if_neg (by omega)]; done) | (rw [if_neg (by omega), if_neg (by omega), if_neg (by omega), if_pos (by omega)]; done) | (rw [if_neg (by omega), if_neg (by omega), if_neg (by omega), if_neg (by omega)]; done)
def F22 (σ σ' : jS) : Prop := ∀ q, ¬ ((8 ≤ q ∧ q ≤ 14) ∨ (18 ≤ q ∧ q ≤ 23)) → σ' q = σ q
theorem c_X8_settles (hx : inR x) : Ct P 7 yX8_settles cX8_settles 2 (some .int) [vr P 0, vi x] σ (qi fun z σ' => (if ¬ (0 ≤ x ∧ x ≤ 1) then -2 else if ¬ 0 < σ 1 1 then -3 else if x = 0 then (setT (numV (vC σ 1)) 301 0).1 else (setT (numV (vC σ 1)) 301 0).2) = z ∧ F22 σ σ') := by
  refine Ct.of _ rfl rfl rfl (Nat.le_of_ble_eq_true rfl) (fun hB => ?_)
  refine J_iload_n (i := 1) 1 dX8_settles_0 rfl rfl rfl ?_
  refine J_if_lt 9 4 dX8_settles_1 rfl rfl (fun c1 => ?_) (fun c1 => ?_)
  · refine J_bipush 11 dX8_settles_9 rfl (by decide) ?_
    refine J_iret dX8_settles_11 rfl ?_
    first | exact ⟨if_pos (by omega), fun _ _ => rfl⟩ | (refine ⟨?_, fun _ _ => rfl⟩; rw [if_neg (by omega), if_pos (by omega)]; done) | (refine ⟨?_, hF⟩; rw [if_neg (by omega), if_neg (by omega), if_pos (by omega), q1]; done) | (refine ⟨?_, hF⟩; rw [if_neg (by omega), if_neg (by omega), if_neg (by omega), q2]; done)
  · refine J_iload_n (i := 1) 5 dX8_settles_4 rfl rfl rfl ?_
    refine J_iconst 6 dX8_settles_5 rfl ?_
    refine J_icmp_le 12 9 dX8_settles_6 rfl rfl (fun c2 => ?_) (fun c2 => ?_)
    · refine J_aload_n (i := 0) 13 dX8_settles_12 rfl rfl rfl ?_
      refine J_getR 16 dX8_settles_13 rfl fX8_14 rfl rfl ?_
      refine J_callVi 19 dX8_settles_16 rfl kX8_162 mX7_stands rfl rfl rfl (c_X7_stands) (by first | decide | omega) rfl rfl (Nat.le_of_ble_eq_true rfl) (fun z4 s5 h3 => ?_)
      obtain ⟨rfl, rfl⟩ := h3
      refine J_bif_ne 25 22 dX8_settles_19 rfl rfl (fun c6 => ?_) (fun c6 => ?_)
      · refine J_aload_n (i := 0) 26 dX8_settles_25 rfl rfl rfl ?_
        refine J_getR 29 dX8_settles_26 rfl fX8_18 rfl rfl ?_
        refine J_aload_n (i := 0) 30 dX8_settles_29 rfl rfl rfl ?_
        refine J_getR 33 dX8_settles_30 rfl fX8_14 rfl rfl ?_
        refine J_callVv 36 dX8_settles_33 rfl kX8_96 mX7_become rfl rfl rfl (c_X7_become) (by first | decide | omega) rfl rfl (Nat.le_of_ble_eq_true rfl) (fun s9 h7 => ?_)
        obtain rfl := h7
        refine J_aload_n (i := 0) 37 dX8_settles_36 rfl rfl rfl ?_
        refine J_getR 40 dX8_settles_37 rfl fX8_52 rfl rfl ?_
        refine J_aload_n (i := 0) 41 dX8_settles_40 rfl rfl rfl ?_
        refine J_getR 44 dX8_settles_41 rfl fX8_18 rfl rfl ?_
        refine J_callVv 47 dX8_settles_44 rfl kX8_224 mX4_follow rfl rfl rfl (c_X4_follow) (by first | decide | omega) rfl rfl (Nat.le_of_ble_eq_true rfl) (fun s12 h10 => ?_)
        obtain ⟨q1, q2, q3⟩ := h10
        rw [vC_bec] at q1 q2
        have hF : F22 σ s12 := fun q hq => (q3 q (by omega) (by omega) (by omega)).trans (F8_bec σ q (by omega))
        refine J_iload_n (i := 1) 48 dX8_settles_47 rfl rfl rfl ?_
        refine J_if_ne 61 51 dX8_settles_48 rfl rfl (fun c13 => ?_) (fun c13 => ?_)
        · refine J_aload_n (i := 0) 62 dX8_settles_61 rfl rfl rfl ?_
          refine J_getR 65 dX8_settles_62 rfl fX8_52 rfl rfl ?_
          refine J_getI (jz := 2) (lo := (-9)) (hi := 301) 68 dX8_settles_65 rfl fX8_230 rfl rfl rfl rfl (fun b14 b15 => ?_)
          refine J_iret dX8_settles_68 rfl ?_
          first | exact ⟨if_pos (by omega), fun _ _ => rfl⟩ | (refine ⟨?_, fun _ _ => rfl⟩; rw [if_neg (by omega), if_pos (by omega)]; done) | (refine ⟨?_, hF⟩; rw [if_neg (by omega), if_neg (by omega), if_pos (by omega), q1]; done) | (refine ⟨?_, hF⟩; rw [if_neg (by omega), if_neg (by omega), if_neg (by omega), q2]; done)
        · refine J_aload_n (i := 0) 52 dX8_settles_51 rfl rfl rfl ?_
          refine J_getR 55 dX8_settles_52 rfl fX8_52 rfl rfl ?_
          refine J_getI (jz := 1) (lo := (-9)) (hi := 300) 58 dX8_settles_55 rfl fX8_227 rfl rfl rfl rfl (fun b16 b17 => ?_)
          refine J_goto 68 dX8_settles_58 rfl ?_
          refine J_iret dX8_settles_68 rfl ?_
          first | exact ⟨if_pos (by omega), fun _ _ => rfl⟩ | (refine ⟨?_, fun _ _ => rfl⟩; rw [if_neg (by omega), if_pos (by omega)]; done) | (refine ⟨?_, hF⟩; rw [if_neg (by omega), if_neg (by omega), if_pos (by omega), q1]; done) | (refine ⟨?_, hF⟩; rw [if_neg (by omega), if_neg (by omega), if_neg (by omega), q2]; done)
      · refine J_bipush 24 dX8_settles_22 rfl (by decide) ?_
        refine J_iret dX8_settles_24 rfl ?_
        first | exact ⟨if_pos (by omega), fun _ _ => rfl⟩ | (refine ⟨?_, fun _ _ => rfl⟩; rw [if_neg (by omega), if_pos (by omega)]; done) | (refine ⟨?_, hF⟩; rw [if_neg (by omega), if_neg (by omega), if_pos (by omega), q1]; done) | (refine ⟨?_, hF⟩; rw [if_neg (by omega), if_neg (by omega), if_neg (by omega), q2]; done)
    · refine J_bipush 11 dX8_settles_9 rfl (by decide) ?_
      refine J_iret dX8_settles_11 rfl ?_
      first | exact ⟨if_pos (by omega), fun _ _ => rfl⟩ | (refine ⟨?_, fun _ _ => rfl⟩; rw [if_neg (by omega), if_pos (by omega)]; done) | (refine ⟨?_, hF⟩; rw [if_neg (by omega), if_neg (by omega), if_pos (by omega), q1]; done) | (refine ⟨?_, hF⟩; rw [if_neg (by omega), if_neg (by omega), if_neg (by omega), q2]; done)
def aParted (g n : Int) (A : pAcc) (k : Int) : Int := if ¬ (-1 ≤ k ∧ k < 3) then -2 else if ¬ 0 < n then -3 else if ¬ k < g then -9 else if k < 0 then A.1 else if k = 0 then A.2.1 else if k = 1 then A.2.2.1 else A.2.2.2
theorem c_X8_parted (hx : inR x) (hP : 0 < σ 1 1 → (parM (vC σ 1)).1 ≠ -9) : Ct P 8 yX8_parted cX8_parted 2 (some .int) [vr P 0, vi x] σ (qi fun z σ' => aParted (σ 1 0) (σ 1 1) (parM (vC σ 1)) x = z ∧ F22 σ σ') := by
  refine Ct.of _ rfl rfl rfl (Nat.le_of_ble_eq_true rfl) (fun hB => ?_)
  refine J_iload_n (i := 1) 1 dX8_parted_0 rfl rfl rfl ?_
  refine J_iconst 2 dX8_parted_1 rfl ?_
  refine J_icmp_lt 10 5 dX8_parted_2 rfl rfl (fun c1 => ?_) (fun c1 => ?_)
  · refine J_bipush 12 dX8_parted_10 rfl (by decide) ?_
    refine J_iret dX8_parted_12 rfl ?_
    first
      | (refine ⟨?_, fun _ _ => rfl⟩; unfold aParted; first | (rw [if_pos (by omega)]; done) | (rw [if_neg (by omega), if_pos (by omega)]; done) | (rw [if_neg (by omega), if_neg (by omega), if_pos (by omega)]; done))
      | (refine ⟨?_, hF⟩; unfold aParted; rw [if_neg (by omega), if_neg (by omega), if_neg (by omega), if_pos (by omega), q1]; done)
      | (refine ⟨?_, hF⟩; unfold aParted; rw [if_neg (by omega), if_neg (by omega), if_neg (by omega), if_neg (by omega)]; rcases (show x = 0 ∨ x = 1 ∨ x = 2 by omega) with rfl | rfl | rfl; exact q4.symm; exact q5.symm; exact q6.symm)
  · refine J_iload_n (i := 1) 6 dX8_parted_5 rfl rfl rfl ?_
    refine J_iconst 7 dX8_parted_6 rfl ?_
    refine J_icmp_lt 13 10 dX8_parted_7 rfl rfl (fun c2 => ?_) (fun c2 => ?_)
    · refine J_aload_n (i := 0) 14 dX8_parted_13 rfl rfl rfl ?_
      refine J_getR 17 dX8_parted_14 rfl fX8_14 rfl rfl ?_
      refine J_callVi 20 dX8_parted_17 rfl kX8_162 mX7_stands rfl rfl rfl (c_X7_stands) (by first | decide | omega) rfl rfl (Nat.le_of_ble_eq_true rfl) (fun z4 s5 h3 => ?_)
      obtain ⟨rfl, rfl⟩ := h3
      refine J_bif_ne 26 23 dX8_parted_20 rfl rfl (fun c6 => ?_) (fun c6 => ?_)
      · refine J_iload_n (i := 1) 27 dX8_parted_26 rfl rfl rfl ?_
        refine J_aload_n (i := 0) 28 dX8_parted_27 rfl rfl rfl ?_
        refine J_getR 31 dX8_parted_28 rfl fX8_14 rfl rfl ?_
        refine J_getI (jz := 0) (lo := 0) (hi := 3) 34 dX8_parted_31 rfl fX8_208 rfl rfl rfl rfl (fun b7 b8 => ?_)
        refine J_icmp_lt 40 37 dX8_parted_34 rfl rfl (fun c9 => ?_) (fun c9 => ?_)
        · refine J_aload_n (i := 0) 41 dX8_parted_40 rfl rfl rfl ?_
          refine J_getR 44 dX8_parted_41 rfl fX8_18 rfl rfl ?_
          refine J_aload_n (i := 0) 45 dX8_parted_44 rfl rfl rfl ?_
          refine J_getR 48 dX8_parted_45 rfl fX8_14 rfl rfl ?_
          refine J_callVv 51 dX8_parted_48 rfl kX8_96 mX7_become rfl rfl rfl (c_X7_become) (by first | decide | omega) rfl rfl (Nat.le_of_ble_eq_true rfl) (fun s12 h10 => ?_)
          obtain rfl := h10
          refine J_aload_n (i := 0) 52 dX8_parted_51 rfl rfl rfl ?_
          refine J_getR 55 dX8_parted_52 rfl fX8_45 rfl rfl ?_
          refine J_aload_n (i := 0) 56 dX8_parted_55 rfl rfl rfl ?_
          refine J_getR 59 dX8_parted_56 rfl fX8_18 rfl rfl ?_
          refine J_callVv 62 dX8_parted_59 rfl kX8_211 mX2_seek rfl rfl rfl (c_X2_seek) (by first | decide | omega) rfl rfl (Nat.le_of_ble_eq_true rfl) (fun s15 h13 => ?_)
          obtain ⟨q1, q2, -, q3⟩ := h13
          rw [vC_bec] at q1 q2
          obtain ⟨q4, q5, q6⟩ := q2 (hP (by omega))
          have hF : F22 σ s15 := fun q hq => (q3 q (by omega) (by omega) (by omega)).trans (F8_bec σ q (by omega))
          refine J_iload_n (i := 1) 63 dX8_parted_62 rfl rfl rfl ?_
          refine J_if_ge 76 66 dX8_parted_63 rfl rfl (fun c16 => ?_) (fun c16 => ?_)
          · refine J_aload_n (i := 0) 77 dX8_parted_76 rfl rfl rfl ?_
            refine J_getR 80 dX8_parted_77 rfl fX8_45 rfl rfl ?_
            refine J_getR 83 dX8_parted_80 rfl fX8_217 rfl rfl ?_
            refine J_iload_n (i := 1) 84 dX8_parted_83 rfl rfl rfl ?_
            refine J_iald (N := 3) (lo := 0) (hi := 9) 85 dX8_parted_84 rfl rfl rfl rfl (fun b17 b18 => ?_)
            refine J_iret dX8_parted_85 rfl ?_
            first
              | (refine ⟨?_, fun _ _ => rfl⟩; unfold aParted; first | (rw [if_pos (by omega)]; done) | (rw [if_neg (by omega), if_pos (by omega)]; done) | (rw [if_neg (by omega), if_neg (by omega), if_pos (by omega)]; done))
              | (refine ⟨?_, hF⟩; unfold aParted; rw [if_neg (by omega), if_neg (by omega), if_neg (by omega), if_pos (by omega), q1]; done)
              | (refine ⟨?_, hF⟩; unfold aParted; rw [if_neg (by omega), if_neg (by omega), if_neg (by omega), if_neg (by omega)]; rcases (show x = 0 ∨ x = 1 ∨ x = 2 by omega) with rfl | rfl | rfl; exact q4.symm; exact q5.symm; exact q6.symm)
          · refine J_aload_n (i := 0) 67 dX8_parted_66 rfl rfl rfl ?_
            refine J_getR 70 dX8_parted_67 rfl fX8_45 rfl rfl ?_
            refine J_getI (jz := 1) (lo := (-9)) (hi := 6) 73 dX8_parted_70 rfl fX8_214 rfl rfl rfl rfl (fun b19 b20 => ?_)
            refine J_goto 85 dX8_parted_73 rfl ?_
            refine J_iret dX8_parted_85 rfl ?_
            first
              | (refine ⟨?_, fun _ _ => rfl⟩; unfold aParted; first | (rw [if_pos (by omega)]; done) | (rw [if_neg (by omega), if_pos (by omega)]; done) | (rw [if_neg (by omega), if_neg (by omega), if_pos (by omega)]; done))
              | (refine ⟨?_, hF⟩; unfold aParted; rw [if_neg (by omega), if_neg (by omega), if_neg (by omega), if_pos (by omega), q1]; done)
              | (refine ⟨?_, hF⟩; unfold aParted; rw [if_neg (by omega), if_neg (by omega), if_neg (by omega), if_neg (by omega)]; rcases (show x = 0 ∨ x = 1 ∨ x = 2 by omega) with rfl | rfl | rfl; exact q4.symm; exact q5.symm; exact q6.symm)
        · refine J_bipush 39 dX8_parted_37 rfl (by decide) ?_
          refine J_iret dX8_parted_39 rfl ?_
          first
            | (refine ⟨?_, fun _ _ => rfl⟩; unfold aParted; first | (rw [if_pos (by omega)]; done) | (rw [if_neg (by omega), if_pos (by omega)]; done) | (rw [if_neg (by omega), if_neg (by omega), if_pos (by omega)]; done))
            | (refine ⟨?_, hF⟩; unfold aParted; rw [if_neg (by omega), if_neg (by omega), if_neg (by omega), if_pos (by omega), q1]; done)
            | (refine ⟨?_, hF⟩; unfold aParted; rw [if_neg (by omega), if_neg (by omega), if_neg (by omega), if_neg (by omega)]; rcases (show x = 0 ∨ x = 1 ∨ x = 2 by omega) with rfl | rfl | rfl; exact q4.symm; exact q5.symm; exact q6.symm)
      · refine J_bipush 25 dX8_parted_23 rfl (by decide) ?_
        refine J_iret dX8_parted_25 rfl ?_
        first
          | (refine ⟨?_, fun _ _ => rfl⟩; unfold aParted; first | (rw [if_pos (by omega)]; done) | (rw [if_neg (by omega), if_pos (by omega)]; done) | (rw [if_neg (by omega), if_neg (by omega), if_pos (by omega)]; done))
          | (refine ⟨?_, hF⟩; unfold aParted; rw [if_neg (by omega), if_neg (by omega), if_neg (by omega), if_pos (by omega), q1]; done)
          | (refine ⟨?_, hF⟩; unfold aParted; rw [if_neg (by omega), if_neg (by omega), if_neg (by omega), if_neg (by omega)]; rcases (show x = 0 ∨ x = 1 ∨ x = 2 by omega) with rfl | rfl | rfl; exact q4.symm; exact q5.symm; exact q6.symm)
    · refine J_bipush 12 dX8_parted_10 rfl (by decide) ?_
      refine J_iret dX8_parted_12 rfl ?_
      first
        | (refine ⟨?_, fun _ _ => rfl⟩; unfold aParted; first | (rw [if_pos (by omega)]; done) | (rw [if_neg (by omega), if_pos (by omega)]; done) | (rw [if_neg (by omega), if_neg (by omega), if_pos (by omega)]; done))
        | (refine ⟨?_, hF⟩; unfold aParted; rw [if_neg (by omega), if_neg (by omega), if_neg (by omega), if_pos (by omega), q1]; done)
        | (refine ⟨?_, hF⟩; unfold aParted; rw [if_neg (by omega), if_neg (by omega), if_neg (by omega), if_neg (by omega)]; rcases (show x = 0 ∨ x = 1 ∨ x = 2 by omega) with rfl | rfl | rfl; exact q4.symm; exact q5.symm; exact q6.symm)
end

