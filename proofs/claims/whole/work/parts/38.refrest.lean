/-! ===== the reference: odds, how far, the lantern, the rest that is small ===== -/
def HR2 (σ τ : jS) : Prop := ∀ m ch, G3 (jup (jup σ 36 3 m) 36 4 ch) (jup (jup τ 36 3 m) 36 4 ch)
theorem jup_comm (σ : jS) {K : Nat} {J1 J2 a b : Int} (h : ¬ J1 = J2) : jup (jup σ K J1 a) K J2 b = jup (jup σ K J2 b) K J1 a := by
  funext k j
  unfold jup
  by_cases e : k = K
  · simp only [if_pos e]
    by_cases e1 : j = J1
    · rw [if_neg (by omega), if_pos e1, if_pos e1]
    · by_cases e2 : j = J2
      · rw [if_pos e2, if_neg e1, if_pos e2]
      · rw [if_neg e2, if_neg e1, if_neg e1, if_neg e2]
  · simp only [if_neg e]
theorem HR2_next {σ τ τ2 : jS} {m0 c0 : Int} (h : HR2 σ τ) (h2 : G3 (jup (jup τ 36 3 m0) 36 4 c0) τ2) : HR2 σ τ2 := by
  intro m ch
  have h3 := G3_up (G3_up h2 36 3 m) 36 4 ch
  have e : jup (jup (jup (jup τ 36 3 m0) 36 4 c0) 36 3 m) 36 4 ch = jup (jup τ 36 3 m) 36 4 ch := by
    rw [jup_comm (jup τ 36 3 m0) (K := 36) (J1 := 4) (J2 := 3) (by omega), jup_jup, jup_jup]
  rw [e] at h3
  exact G3_trans (h m ch) h3
theorem HR2_end {σ τ : jS} (h : HR2 σ τ) : G3 σ (jup (jup τ 36 3 (σ 36 3)) 36 4 (σ 36 4)) := by
  have h2 := h (σ 36 3) (σ 36 4)
  have e : jup (jup σ 36 3 (σ 36 3)) 36 4 (σ 36 4) = σ := by rw [jup_self]; exact jup_self σ 36 4
  rw [e] at h2
  exact h2
theorem vR_MC (σ : jS) (m ch : Int) : vR (jup (jup σ 36 3 m) 36 4 ch) = setMC (vR σ) m ch := by
  have e1 := vR_up0 (jup σ 36 3 m) 3 ch (by omega)
  have e2 := vR_up0 σ 2 m (by omega)
  unfold setMC
  rw [← e2]
  exact e1
section
variable {P : jP} {w o : Nat} {a b c d g x y z n s i j k l : Int} {σ τ v : jS}
set_option maxHeartbeats 4000000 in
theorem l_X9_odds {hm hc0 : Int} (hok : okG σ) (hc : 0 ≤ c ∧ c < σ 36 2) (hn6 : σ 36 2 ≤ 6) (hx : 0 ≤ x ∧ x ≤ 1) (h3 : hm = σ 36 3) (h4 : hc0 = σ 36 4) (h3b : 0 ≤ hm ∧ hm ≤ 2) (h4b : 0 ≤ hc0 ∧ hc0 ≤ 9) (hvB : wvB (vR σ)) : ∀ (k i : Nat) (d r : Int) (τ : jS), i + k = 30 → d = i → r = sumN (wayF (vR σ) c) i → HR2 σ τ → J P 6 (RX9, cX9_odds, 7, some .long) 39 [some (vr P 36), some (vi c), some (vi x), some (vi hm), some (vi hc0), some (vi r), some (vi d)] [] τ (ql fun z σ' => oddsM (vR σ) c x = z ∧ G3 σ σ') := by
  intro k
  induction k with
  | zero =>
    intro i d r τ hi hd hr hF
    have hrb := sumN_b (wayF_b (vR σ) c) i
    have hrr : r = sumN (wayF (vR σ) c) 30 := by rw [Nat.add_zero] at hi; rw [hr, hi]
    refine J_iload 41 dX9_odds_39 rfl rfl ?_
    refine J_bipush 43 dX9_odds_41 rfl (by decide) ?_
    refine J_icmp_ge 88 46 dX9_odds_43 rfl rfl (fun c1 => ?_) (fun c1 => ?_)
    · refine J_aload_n (i := 0) 89 dX9_odds_88 rfl rfl rfl ?_
      refine J_iload_n (i := 3) 90 dX9_odds_89 rfl rfl rfl ?_
      refine J_putI (jz := 3) (lo := 0) (hi := 2) 93 dX9_odds_90 rfl gX9_162 rfl rfl rfl rfl ?_
      refine J_aload_n (i := 0) 94 dX9_odds_93 rfl rfl rfl ?_
      refine J_iload 96 dX9_odds_94 rfl rfl ?_
      refine J_putI (jz := 4) (lo := 0) (hi := 9) 99 dX9_odds_96 rfl gX9_165 rfl rfl rfl rfl ?_
      refine J_iload 101 dX9_odds_99 rfl rfl ?_
      refine J_i2l 102 dX9_odds_101 rfl ?_
      refine J_ldc2 105 dX9_odds_102 rfl cstX9_252 ?_
      refine J_iload_n (i := 2) 106 dX9_odds_105 rfl rfl rfl ?_
      refine J_callSl 109 dX9_odds_106 rfl kX9_299 mX9_share (c_X9_share) (by first | decide | omega) rfl rfl (Nat.le_of_ble_eq_true rfl) (fun z3 s4 h2 => ?_)
      obtain ⟨rfl, rfl⟩ := h2
      refine J_lret dX9_odds_109 rfl ?_
      refine ⟨?_, ?_⟩
      · unfold oddsM
        rw [hrr]
      · rw [h3, h4]
        exact HR2_end hF
    · exfalso; omega
  | succ k ih =>
    intro i d r τ hi hd hr hF
    have hrb := sumN_b (wayF_b (vR σ) c) i
    have hq : 0 ≤ d / 10 ∧ d / 10 ≤ 2 := by omega
    have hq2 : 0 ≤ d % 10 ∧ d % 10 ≤ 9 := by omega
    have hG1 := hF (d / 10) (d % 10)
    have e1 : vR (jup (jup τ 36 3 (d / 10)) 36 4 (d % 10)) = setMC (vR σ) (d / 10) (d % 10) := (vR_G3 hG1).trans (vR_MC σ _ _)
    have hok1 : okG (jup (jup τ 36 3 (d / 10)) 36 4 (d % 10)) := okG_G3 (show okG (jup (jup σ 36 3 (d / 10)) 36 4 (d % 10)) from okG_of hok rfl rfl rfl) hG1
    have hn1 : (jup (jup τ 36 3 (d / 10)) 36 4 (d % 10)) 36 2 = σ 36 2 := by rw [hG1 36 (by omega) (by omega) (by omega)]; rfl
    have heb := eatsM_b (setMC_B hvB hq hq2) c
    have hst : sumN (wayF (vR σ) c) (i + 1) = r + (if 0 < eatsM (setMC (vR σ) (d / 10) (d % 10)) c then 1 else 0) := by
      show sumN (wayF (vR σ) c) i + wayF (vR σ) c (i : Int) = _
      rw [← hr, ← hd]
      rfl
    refine J_iload 41 dX9_odds_39 rfl rfl ?_
    refine J_bipush 43 dX9_odds_41 rfl (by decide) ?_
    refine J_icmp_ge 88 46 dX9_odds_43 rfl rfl (fun c1 => ?_) (fun c1 => ?_)
    · exfalso; omega
    · refine J_aload_n (i := 0) 47 dX9_odds_46 rfl rfl rfl ?_
      refine J_iload 49 dX9_odds_47 rfl rfl ?_
      refine J_bipush 51 dX9_odds_49 rfl (by decide) ?_
      refine J_idiv 52 dX9_odds_51 rfl ?_
      refine J_putI (jz := 3) (lo := 0) (hi := 2) 55 dX9_odds_52 rfl gX9_162 rfl rfl rfl rfl ?_
      refine J_aload_n (i := 0) 56 dX9_odds_55 rfl rfl rfl ?_
      refine J_iload 58 dX9_odds_56 rfl rfl ?_
      refine J_bipush 60 dX9_odds_58 rfl (by decide) ?_
      refine J_irem 61 dX9_odds_60 rfl ?_
      refine J_putI (jz := 4) (lo := 0) (hi := 9) 64 dX9_odds_61 rfl gX9_165 rfl rfl rfl rfl ?_
      refine J_iload 66 dX9_odds_64 rfl rfl ?_
      refine J_aload_n (i := 0) 67 dX9_odds_66 rfl rfl rfl ?_
      refine J_iload_n (i := 1) 68 dX9_odds_67 rfl rfl rfl ?_
      refine J_callVi 71 dX9_odds_68 rfl kX9_266 mX9_eats rfl rfl rfl (c_X9_eats hok1 (by rw [hn1]; exact hc)) (by first | decide | omega) rfl rfl (Nat.le_of_ble_eq_true rfl) (fun z3 s4 h2 => ?_)
      obtain ⟨rfl, f1⟩ := h2
      rw [e1]
      have hF2 := HR2_next hF f1
      refine J_if_le 78 74 dX9_odds_71 rfl rfl (fun c5 => ?_) (fun c5 => ?_)
      · refine J_iconst 79 dX9_odds_78 rfl ?_
        refine J_iadd 80 dX9_odds_79 rfl ?_
        refine J_istore 82 dX9_odds_80 rfl (by decide) ?_
        refine J_iinc 85 dX9_odds_82 rfl (by decide) rfl ?_
        refine J_goto 39 dX9_odds_85 rfl ?_
        refine ih (i + 1) _ _ _ (by omega) (by omega) ?_ hF2
        rw [hst]
        first | (rw [if_pos (by omega)]; done) | (rw [if_neg (by omega)]; done)
      · refine J_iconst 75 dX9_odds_74 rfl ?_
        refine J_goto 79 dX9_odds_75 rfl ?_
        refine J_iadd 80 dX9_odds_79 rfl ?_
        refine J_istore 82 dX9_odds_80 rfl (by decide) ?_
        refine J_iinc 85 dX9_odds_82 rfl (by decide) rfl ?_
        refine J_goto 39 dX9_odds_85 rfl ?_
        refine ih (i + 1) _ _ _ (by omega) (by omega) ?_ hF2
        rw [hst]
        first | (rw [if_pos (by omega)]; done) | (rw [if_neg (by omega)]; done)
theorem c_X9_odds (hok : okG σ) (hc : inR c) (hx : inR x) : Ct P 6 yX9_odds cX9_odds 7 (some .long) [vr P 36, vi c, vi x] σ (ql fun z σ' => (if ¬ ((0 ≤ c ∧ c < σ 36 2) ∧ 0 ≤ x ∧ x ≤ 1) then -9223372036854775808 else oddsM (vR σ) c x) = z ∧ G3 σ σ') := by
  refine Ct.bd (fun hB => ?_)
  have hvB := vR_B hB
  have hn : 0 ≤ σ 36 2 ∧ σ 36 2 ≤ 6 := hB 36 2
  have h3 : 0 ≤ σ 36 3 ∧ σ 36 3 ≤ 2 := hB 36 3
  have h4 : 0 ≤ σ 36 4 ∧ σ 36 4 ≤ 9 := hB 36 4
  refine Ct.of _ rfl rfl rfl (Nat.le_of_ble_eq_true rfl) (fun hB => ?_)
  refine J_aload_n (i := 0) 1 dX9_odds_0 rfl rfl rfl ?_
  refine J_iload_n (i := 1) 2 dX9_odds_1 rfl rfl rfl ?_
  refine J_callVi 5 dX9_odds_2 rfl kX9_180 mX9_noComer rfl rfl rfl (c_X9_noComer) (by first | decide | omega) rfl rfl (Nat.le_of_ble_eq_true rfl) (fun z2 s3 h1 => ?_)
  obtain ⟨rfl, rfl⟩ := h1
  refine J_bif_ne 18 8 dX9_odds_5 rfl rfl (fun c4 => ?_) (fun c4 => ?_)
  · refine J_callSl 21 dX9_odds_18 rfl kX9_100 mX9_lost (c_X9_lost) (by first | decide | omega) rfl rfl (Nat.le_of_ble_eq_true rfl) (fun z6 s7 h5 => ?_)
    obtain ⟨rfl, rfl⟩ := h5
    refine J_lret dX9_odds_21 rfl ?_
    exact ⟨if_pos (by omega), fun _ _ _ _ => rfl⟩
  · refine J_iload_n (i := 2) 9 dX9_odds_8 rfl rfl rfl ?_
    refine J_i2l 10 dX9_odds_9 rfl ?_
    refine J_lconst (z := 0) 11 dX9_odds_10 rfl rfl ?_
    refine J_lconst (z := 1) 12 dX9_odds_11 rfl rfl ?_
    refine J_callSi 15 dX9_odds_12 rfl kX9_107 mX9_in (c_X9_in) (by first | decide | omega) rfl rfl (Nat.le_of_ble_eq_true rfl) (fun z9 s10 h8 => ?_)
    obtain ⟨rfl, rfl⟩ := h8
    refine J_bif_ne 22 18 dX9_odds_15 rfl rfl (fun c11 => ?_) (fun c11 => ?_)
    · refine J_aload_n (i := 0) 23 dX9_odds_22 rfl rfl rfl ?_
      refine J_getI (jz := 3) (lo := 0) (hi := 2) 26 dX9_odds_23 rfl fX9_162 rfl rfl rfl rfl (fun b12 b13 => ?_)
      refine J_istore_n (i := 3) 27 dX9_odds_26 rfl rfl (by decide) ?_
      refine J_aload_n (i := 0) 28 dX9_odds_27 rfl rfl rfl ?_
      refine J_getI (jz := 4) (lo := 0) (hi := 9) 31 dX9_odds_28 rfl fX9_165 rfl rfl rfl rfl (fun b14 b15 => ?_)
      refine J_istore 33 dX9_odds_31 rfl (by decide) ?_
      refine J_iconst 34 dX9_odds_33 rfl ?_
      refine J_istore 36 dX9_odds_34 rfl (by decide) ?_
      refine J_iconst 37 dX9_odds_36 rfl ?_
      refine J_istore 39 dX9_odds_37 rfl (by decide) ?_
      rw [if_neg (by omega)]
      exact l_X9_odds hok (by omega) hn.2 (by omega) rfl rfl h3 h4 hvB 30 0 _ _ _ rfl rfl rfl (fun _ _ _ _ _ _ => rfl)
    · refine J_callSl 21 dX9_odds_18 rfl kX9_100 mX9_lost (c_X9_lost) (by first | decide | omega) rfl rfl (Nat.le_of_ble_eq_true rfl) (fun z17 s18 h16 => ?_)
      obtain ⟨rfl, rfl⟩ := h16
      refine J_lret dX9_odds_21 rfl ?_
      exact ⟨if_pos (by omega), fun _ _ _ _ => rfl⟩
set_option maxHeartbeats 4000000 in
theorem l_X9_farOfI {t : Int} (hx : 0 ≤ x ∧ x < 6) (hs : 0 ≤ s ∧ s ≤ 63) {Q : Option Value → jS → Prop} (hK : J P 1 (RX9, cX9_farOf, 7, some .int) 73 [some (vr P 36), some (vi c), some (vi x), some (vi s), some (vi t), some (vi (ior s (orN (σ 43) s (σ 36 2).toNat))), none] [] σ Q) : ∀ (k i : Nat) (d r : Int), i + k = (σ 36 2).toNat → d = i → r = ior s (orN (σ 43) s i) → J P 1 (RX9, cX9_farOf, 7, some .int) 32 [some (vr P 36), some (vi c), some (vi x), some (vi s), some (vi t), some (vi r), some (vi d)] [] σ Q := by
  intro k
  induction k with
  | zero =>
    intro i d r hi hd hr
    rw [Nat.add_zero] at hi
    refine J_iload 34 dX9_farOf_32 rfl rfl ?_
    refine J_aload_n (i := 0) 35 dX9_farOf_34 rfl rfl rfl ?_
    refine J_getI (jz := 2) (lo := 0) (hi := 6) 38 dX9_farOf_35 rfl fX9_104 rfl rfl rfl rfl (fun b1 b2 => ?_)
    refine J_icmp_ge 73 41 dX9_farOf_38 rfl rfl (fun c3 => ?_) (fun c3 => ?_)
    · rw [hi] at hr
      subst hr
      exact J.wk hK ⟨rfl, rfl, rfl, rfl, rfl, rfl, trivial⟩
    · exfalso; omega
  | succ k ih =>
    intro i d r hi hd hr
    refine J.bd (fun hB => ?_)
    have hn : 0 ≤ σ 36 2 ∧ σ 36 2 ≤ 6 := hB 36 2
    have hk6 : ∀ j, 0 ≤ σ 43 j ∧ σ 43 j ≤ 63 := fun j => hB 43 j
    have hob := orN_b hk6 s i
    have hrb := ior_b hs hob
    have hdv := sh_b (a := s.toNat) d (by omega)
    have hbb := bit_b (s.toNat / 2 ^ d.toNat)
    have hst : ior s (orN (σ 43) s (i + 1)) = if iand ((s.toNat / 2 ^ d.toNat : Nat) : Int) 1 = 1 then ior r (σ 43 d) else ior r 0 := by
      rw [hr, hd, ior_assoc]
      simp only [orN]
      by_cases e : iand ((s.toNat / 2 ^ ((i : Nat) : Int).toNat : Nat) : Int) 1 = 1
      · rw [if_pos e, if_pos e]
      · rw [if_neg e, if_neg e, ior_assoc, ior_0 hob.1]
    rw [← hr] at hrb
    refine J_iload 34 dX9_farOf_32 rfl rfl ?_
    refine J_aload_n (i := 0) 35 dX9_farOf_34 rfl rfl rfl ?_
    refine J_getI (jz := 2) (lo := 0) (hi := 6) 38 dX9_farOf_35 rfl fX9_104 rfl rfl rfl rfl (fun b1 b2 => ?_)
    refine J_icmp_ge 73 41 dX9_farOf_38 rfl rfl (fun c3 => ?_) (fun c3 => ?_)
    · exfalso; omega
    · refine J_iload 43 dX9_farOf_41 rfl rfl ?_
      refine J_iload_n (i := 3) 44 dX9_farOf_43 rfl rfl rfl ?_
      refine J_iload 46 dX9_farOf_44 rfl rfl ?_
      refine J_ishr 47 dX9_farOf_46 rfl ?_
      refine J_iconst 48 dX9_farOf_47 rfl ?_
      refine J_iand 49 dX9_farOf_48 rfl ?_
      refine J_iconst 50 dX9_farOf_49 rfl ?_
      refine J_icmp_ne 63 53 dX9_farOf_50 rfl rfl (fun c4 => ?_) (fun c4 => ?_)
      · refine J_iconst 64 dX9_farOf_63 rfl ?_
        refine J_ior 65 dX9_farOf_64 rfl ?_
        refine J_istore 67 dX9_farOf_65 rfl (by decide) ?_
        refine J_iinc 70 dX9_farOf_67 rfl (by decide) rfl ?_
        refine J_goto 32 dX9_farOf_70 rfl ?_
        refine ih (i + 1) _ _ (by omega) (by omega) ?_
        rw [hst]
        first | (rw [if_pos (by omega)]; done) | (rw [if_neg (by omega)]; done)
      · refine J_aload_n (i := 0) 54 dX9_farOf_53 rfl rfl rfl ?_
        refine J_getR 57 dX9_farOf_54 rfl fX9_28 rfl rfl ?_
        refine J_iload 59 dX9_farOf_57 rfl rfl ?_
        refine J_iald (N := 6) (lo := 0) (hi := 63) 60 dX9_farOf_59 rfl rfl rfl rfl (fun b5 b6 => ?_)
        refine J_goto 64 dX9_farOf_60 rfl ?_
        refine J_ior 65 dX9_farOf_64 rfl ?_
        refine J_istore 67 dX9_farOf_65 rfl (by decide) ?_
        refine J_iinc 70 dX9_farOf_67 rfl (by decide) rfl ?_
        refine J_goto 32 dX9_farOf_70 rfl ?_
        refine ih (i + 1) _ _ (by omega) (by omega) ?_
        rw [hst]
        first | (rw [if_pos (by omega)]; done) | (rw [if_neg (by omega)]; done)
set_option maxHeartbeats 4000000 in
theorem l_X9_farOf (hx : 0 ≤ x ∧ x < 6) : ∀ (k : Nat) (s t : Int), t + k = 6 → 0 ≤ t → 0 ≤ s ∧ s ≤ 63 → J P 1 (RX9, cX9_farOf, 7, some .int) 7 [some (vr P 36), some (vi c), some (vi x), some (vi s), some (vi t), none, none] [] σ (rI (farG (σ 36 2).toNat (σ 43) x k s t) σ) := by
  intro k
  induction k with
  | zero =>
    intro s t ht ht0 hs
    refine J_iload 9 dX9_farOf_7 rfl rfl ?_
    refine J_bipush 11 dX9_farOf_9 rfl (by decide) ?_
    refine J_icmp_ge 82 14 dX9_farOf_11 rfl rfl (fun c1 => ?_) (fun c1 => ?_)
    · refine J_bipush 84 dX9_farOf_82 rfl (by decide) ?_
      refine J_iret dX9_farOf_84 rfl ?_
      exact ⟨rfl, rfl⟩
    · exfalso; omega
  | succ k ih =>
    intro s t ht ht0 hs
    refine J.bd (fun hB => ?_)
    have hk6 : ∀ j, 0 ≤ σ 43 j ∧ σ 43 j ≤ 63 := fun j => hB 43 j
    have hob := orN_b hk6 s (σ 36 2).toNat
    have hdv := sh_b (a := s.toNat) x (by omega)
    have hbb := bit_b (s.toNat / 2 ^ x.toNat)
    have e0 : s = ior s (orN (σ 43) s 0) := (ior_0 hs.1).symm
    refine J_iload 9 dX9_farOf_7 rfl rfl ?_
    refine J_bipush 11 dX9_farOf_9 rfl (by decide) ?_
    refine J_icmp_ge 82 14 dX9_farOf_11 rfl rfl (fun c1 => ?_) (fun c1 => ?_)
    · exfalso; omega
    · refine J_iload_n (i := 3) 15 dX9_farOf_14 rfl rfl rfl ?_
      refine J_iload_n (i := 2) 16 dX9_farOf_15 rfl rfl rfl ?_
      refine J_ishr 17 dX9_farOf_16 rfl ?_
      refine J_iconst 18 dX9_farOf_17 rfl ?_
      refine J_iand 19 dX9_farOf_18 rfl ?_
      refine J_iconst 20 dX9_farOf_19 rfl ?_
      refine J_icmp_ne 26 23 dX9_farOf_20 rfl rfl (fun c2 => ?_) (fun c2 => ?_)
      · refine J_iload_n (i := 3) 27 dX9_farOf_26 rfl rfl rfl ?_
        refine J_istore 29 dX9_farOf_27 rfl (by decide) ?_
        refine J_iconst 30 dX9_farOf_29 rfl ?_
        refine J_istore 32 dX9_farOf_30 rfl (by decide) ?_
        simp only [farG]
        rw [if_neg (by omega)]
        refine l_X9_farOfI hx hs ?_ _ 0 _ _ (Nat.zero_add _) rfl e0
        refine J_iload 75 dX9_farOf_73 rfl rfl ?_
        refine J_istore_n (i := 3) 76 dX9_farOf_75 rfl rfl (by decide) ?_
        refine J_iinc 79 dX9_farOf_76 rfl (by decide) rfl ?_
        refine J_goto 7 dX9_farOf_79 rfl ?_
        exact J.wk (ih (ior s (orN (σ 43) s (σ 36 2).toNat)) (t + 1) (by omega) (by omega) (ior_b hs hob)) ⟨rfl, rfl, rfl, rfl, rfl, trivial⟩
      · refine J_iload 25 dX9_farOf_23 rfl rfl ?_
        refine J_iret dX9_farOf_25 rfl ?_
        refine ⟨?_, rfl⟩
        simp only [farG]
        rw [if_pos (by omega)]
theorem c_X9_farOf (hc : 0 ≤ c ∧ c < 6 := by omega) (hx : 0 ≤ x ∧ x < 6 := by omega) : Ct P 1 yX9_farOf cX9_farOf 7 (some .int) [vr P 36, vi c, vi x] σ (rI (farR (σ 36 2).toNat (σ 43) c x) σ) := by
  have hp := pow_32 hc
  refine Ct.of _ rfl rfl rfl (Nat.le_of_ble_eq_true rfl) (fun hB => ?_)
  refine J_iconst 1 dX9_farOf_0 rfl ?_
  refine J_iload_n (i := 1) 2 dX9_farOf_1 rfl rfl rfl ?_
  refine J_ishl1 3 dX9_farOf_2 rfl ?_
  refine J_istore_n (i := 3) 4 dX9_farOf_3 rfl rfl (by decide) ?_
  refine J_iconst 5 dX9_farOf_4 rfl ?_
  refine J_istore 7 dX9_farOf_5 rfl (by decide) ?_
  exact l_X9_farOf hx 6 _ _ rfl (by omega) (by omega)
theorem c_X9_far (hc : inR c) (hx : inR x) : Ct P 3 yX9_far cX9_far 3 (some .int) [vr P 36, vi c, vi x] σ (rI (if ¬ ((0 ≤ c ∧ c < σ 36 2) ∧ 0 ≤ x ∧ x < σ 36 2) then -1 else farR (σ 36 2).toNat (σ 43) c x) σ) := by
  refine Ct.bd (fun hB => ?_)
  have hn : 0 ≤ σ 36 2 ∧ σ 36 2 ≤ 6 := hB 36 2
  refine Ct.of _ rfl rfl rfl (Nat.le_of_ble_eq_true rfl) (fun hB => ?_)
  refine J_aload_n (i := 0) 1 dX9_far_0 rfl rfl rfl ?_
  refine J_iload_n (i := 1) 2 dX9_far_1 rfl rfl rfl ?_
  refine J_callVi 5 dX9_far_2 rfl kX9_180 mX9_noComer rfl rfl rfl (c_X9_noComer) (by first | decide | omega) rfl rfl (Nat.le_of_ble_eq_true rfl) (fun z2 s3 h1 => ?_)
  obtain ⟨rfl, rfl⟩ := h1
  refine J_bif_ne 16 8 dX9_far_5 rfl rfl (fun c4 => ?_) (fun c4 => ?_)
  · refine J_iconst 17 dX9_far_16 rfl ?_
    refine J_goto 26 dX9_far_17 rfl ?_
    refine J_iret dX9_far_26 rfl ?_
    refine ⟨?_, rfl⟩
    first | rfl | (rw [if_pos (by omega)]; first | done | rfl) | (rw [if_neg (by omega)]; first | done | rfl) | (rw [if_neg (by omega), if_pos (by omega)]; first | done | rfl) | (rw [if_neg (by omega), if_neg (by omega)]; first | done | rfl) | (rw [if_neg (by omega), if_neg (by omega), if_pos (by omega)]; first | done | rfl) | (rw [if_neg (by omega), if_neg (by omega), if_neg (by omega)]; first | done | rfl) | (rw [if_neg (by omega), if_neg (by omega), if_neg (by omega), if_pos (by omega)]; first | done | rfl) | (rw [if_neg (by omega), if_neg (by omega), if_neg (by omega), if_neg (by omega)]; first | done | rfl) | (rw [if_neg (by omega), if_neg (by omega), if_neg (by omega), if_neg (by omega), if_pos (by omega)]; first | done | rfl) | (rw [if_neg (by omega), if_neg (by omega), if_neg (by omega), if_neg (by omega), if_neg (by omega)]; first | done | rfl)
  · refine J_aload_n (i := 0) 9 dX9_far_8 rfl rfl rfl ?_
    refine J_iload_n (i := 2) 10 dX9_far_9 rfl rfl rfl ?_
    refine J_callVi 13 dX9_far_10 rfl kX9_180 mX9_noComer rfl rfl rfl (c_X9_noComer) (by first | decide | omega) rfl rfl (Nat.le_of_ble_eq_true rfl) (fun z6 s7 h5 => ?_)
    obtain ⟨rfl, rfl⟩ := h5
    refine J_bif_eq 20 16 dX9_far_13 rfl rfl (fun c8 => ?_) (fun c8 => ?_)
    · refine J_aload_n (i := 0) 21 dX9_far_20 rfl rfl rfl ?_
      refine J_iload_n (i := 1) 22 dX9_far_21 rfl rfl rfl ?_
      refine J_iload_n (i := 2) 23 dX9_far_22 rfl rfl rfl ?_
      refine J_callVi 26 dX9_far_23 rfl kX9_249 mX9_farOf rfl rfl rfl (c_X9_farOf) (by first | decide | omega) rfl rfl (Nat.le_of_ble_eq_true rfl) (fun z10 s11 h9 => ?_)
      obtain ⟨rfl, rfl⟩ := h9
      refine J_iret dX9_far_26 rfl ?_
      refine ⟨?_, rfl⟩
      first | rfl | (rw [if_pos (by omega)]; first | done | rfl) | (rw [if_neg (by omega)]; first | done | rfl) | (rw [if_neg (by omega), if_pos (by omega)]; first | done | rfl) | (rw [if_neg (by omega), if_neg (by omega)]; first | done | rfl) | (rw [if_neg (by omega), if_neg (by omega), if_pos (by omega)]; first | done | rfl) | (rw [if_neg (by omega), if_neg (by omega), if_neg (by omega)]; first | done | rfl) | (rw [if_neg (by omega), if_neg (by omega), if_neg (by omega), if_pos (by omega)]; first | done | rfl) | (rw [if_neg (by omega), if_neg (by omega), if_neg (by omega), if_neg (by omega)]; first | done | rfl) | (rw [if_neg (by omega), if_neg (by omega), if_neg (by omega), if_neg (by omega), if_pos (by omega)]; first | done | rfl) | (rw [if_neg (by omega), if_neg (by omega), if_neg (by omega), if_neg (by omega), if_neg (by omega)]; first | done | rfl)
    · refine J_iconst 17 dX9_far_16 rfl ?_
      refine J_goto 26 dX9_far_17 rfl ?_
      refine J_iret dX9_far_26 rfl ?_
      refine ⟨?_, rfl⟩
      first | rfl | (rw [if_pos (by omega)]; first | done | rfl) | (rw [if_neg (by omega)]; first | done | rfl) | (rw [if_neg (by omega), if_pos (by omega)]; first | done | rfl) | (rw [if_neg (by omega), if_neg (by omega)]; first | done | rfl) | (rw [if_neg (by omega), if_neg (by omega), if_pos (by omega)]; first | done | rfl) | (rw [if_neg (by omega), if_neg (by omega), if_neg (by omega)]; first | done | rfl) | (rw [if_neg (by omega), if_neg (by omega), if_neg (by omega), if_pos (by omega)]; first | done | rfl) | (rw [if_neg (by omega), if_neg (by omega), if_neg (by omega), if_neg (by omega)]; first | done | rfl) | (rw [if_neg (by omega), if_neg (by omega), if_neg (by omega), if_neg (by omega), if_pos (by omega)]; first | done | rfl) | (rw [if_neg (by omega), if_neg (by omega), if_neg (by omega), if_neg (by omega), if_neg (by omega)]; first | done | rfl)
def heldM (v : jS) (t w : Int) (n : Nat) : Int := if w = 0 then sumN (heldF v t) n else sumN (unheldF v t) n
set_option maxHeartbeats 4000000 in
theorem l_X9_held (hx : inR x) (hy : inR y) : ∀ (k i : Nat) (d r : Int), i + k = nM (vR σ) → d = i → r = heldM (vR σ) x y i → J P 2 (RX9, cX9_held, 6, some .int) 5 [some (vr P 36), some (vi x), some (vi y), some (vi r), some (vi d), none] [] σ (rI (heldM (vR σ) x y (nM (vR σ))) σ) := by
  intro k
  induction k with
  | zero =>
    intro i d r hi hd hr
    have e2 : nM (vR σ) = (σ 36 2).toNat := rfl
    refine J_iload 7 dX9_held_5 rfl rfl ?_
    refine J_aload_n (i := 0) 8 dX9_held_7 rfl rfl rfl ?_
    refine J_getI (jz := 2) (lo := 0) (hi := 6) 11 dX9_held_8 rfl fX9_104 rfl rfl rfl rfl (fun b1 b2 => ?_)
    refine J_icmp_ge 92 14 dX9_held_11 rfl rfl (fun c3 => ?_) (fun c3 => ?_)
    · refine J_iload_n (i := 3) 93 dX9_held_92 rfl rfl rfl ?_
      refine J_iret dX9_held_93 rfl ?_
      refine ⟨?_, rfl⟩
      rw [Nat.add_zero] at hi
      rw [hr, hi]
    · exfalso; omega
  | succ k ih =>
    intro i d r hi hd hr
    refine J.bd (fun hB => ?_)
    have hvB := vR_B hB
    have e2 : nM (vR σ) = (σ 36 2).toNat := rfl
    have hn : 0 ≤ σ 36 2 ∧ σ 36 2 ≤ 6 := hB 36 2
    have hlb := lookM_b hvB d
    have hst : heldM (vR σ) x y (i + 1) = r + (if y = 0 then (if 0 < σ 39 d ∧ x ≤ lookM (vR σ) d then 1 else 0) else (if σ 39 d = 0 ∧ lookM (vR σ) d < x then 1 else 0)) := by
      rw [hr, hd]
      unfold heldM
      split <;> rfl
    refine J_iload 7 dX9_held_5 rfl rfl ?_
    refine J_aload_n (i := 0) 8 dX9_held_7 rfl rfl rfl ?_
    refine J_getI (jz := 2) (lo := 0) (hi := 6) 11 dX9_held_8 rfl fX9_104 rfl rfl rfl rfl (fun b1 b2 => ?_)
    refine J_icmp_ge 92 14 dX9_held_11 rfl rfl (fun c3 => ?_) (fun c3 => ?_)
    · exfalso; omega
    · refine J_iload_n (i := 2) 15 dX9_held_14 rfl rfl rfl ?_
      refine J_if_ne 46 18 dX9_held_15 rfl rfl (fun c4 => ?_) (fun c4 => ?_)
      · refine J_aload_n (i := 0) 47 dX9_held_46 rfl rfl rfl ?_
        refine J_getR 50 dX9_held_47 rfl fX9_16 rfl rfl ?_
        refine J_iload 52 dX9_held_50 rfl rfl ?_
        refine J_iald (N := 6) (lo := 0) (hi := 9) 53 dX9_held_52 rfl rfl rfl rfl (fun b5 b6 => ?_)
        refine J_if_ne 70 56 dX9_held_53 rfl rfl (fun c7 => ?_) (fun c7 => ?_)
        · refine J_iconst 71 dX9_held_70 rfl ?_
          refine J_istore 73 dX9_held_71 rfl (by decide) ?_
          refine J_iload_n (i := 3) 74 dX9_held_73 rfl rfl rfl ?_
          refine J_iload 76 dX9_held_74 rfl rfl ?_
          refine J_if_eq 83 79 dX9_held_76 rfl rfl (fun c8 => ?_) (fun c8 => ?_)
          · refine J_iconst 84 dX9_held_83 rfl ?_
            refine J_iadd 85 dX9_held_84 rfl ?_
            refine J_istore_n (i := 3) 86 dX9_held_85 rfl rfl (by decide) ?_
            refine J_iinc 89 dX9_held_86 rfl (by decide) rfl ?_
            refine J_goto 5 dX9_held_89 rfl ?_
            first
              | (exfalso; omega)
              | (refine J.wk (ih (i + 1) (d + 1) _ (by omega) (by omega) ?_) ⟨rfl, rfl, rfl, rfl, rfl, trivial⟩; rw [hst]; first | (rw [if_pos (show y = 0 by omega)]; first | (rw [if_pos (by omega)]; done) | (rw [if_neg (by omega)]; done)) | (rw [if_neg (show ¬ y = 0 by omega)]; first | (rw [if_pos (by omega)]; done) | (rw [if_neg (by omega)]; done)))
          · refine J_iconst 80 dX9_held_79 rfl ?_
            refine J_goto 84 dX9_held_80 rfl ?_
            refine J_iadd 85 dX9_held_84 rfl ?_
            refine J_istore_n (i := 3) 86 dX9_held_85 rfl rfl (by decide) ?_
            refine J_iinc 89 dX9_held_86 rfl (by decide) rfl ?_
            refine J_goto 5 dX9_held_89 rfl ?_
            first
              | (exfalso; omega)
              | (refine J.wk (ih (i + 1) (d + 1) _ (by omega) (by omega) ?_) ⟨rfl, rfl, rfl, rfl, rfl, trivial⟩; rw [hst]; first | (rw [if_pos (show y = 0 by omega)]; first | (rw [if_pos (by omega)]; done) | (rw [if_neg (by omega)]; done)) | (rw [if_neg (show ¬ y = 0 by omega)]; first | (rw [if_pos (by omega)]; done) | (rw [if_neg (by omega)]; done)))
        · refine J_aload_n (i := 0) 57 dX9_held_56 rfl rfl rfl ?_
          refine J_iload 59 dX9_held_57 rfl rfl ?_
          refine J_callVi 62 dX9_held_59 rfl kX9_171 mX9_look rfl rfl rfl (c_X9_look) (by first | decide | omega) rfl rfl (Nat.le_of_ble_eq_true rfl) (fun z10 s11 h9 => ?_)
          obtain ⟨rfl, rfl⟩ := h9
          refine J_iload_n (i := 1) 63 dX9_held_62 rfl rfl rfl ?_
          refine J_icmp_ge 70 66 dX9_held_63 rfl rfl (fun c12 => ?_) (fun c12 => ?_)
          · refine J_iconst 71 dX9_held_70 rfl ?_
            refine J_istore 73 dX9_held_71 rfl (by decide) ?_
            refine J_iload_n (i := 3) 74 dX9_held_73 rfl rfl rfl ?_
            refine J_iload 76 dX9_held_74 rfl rfl ?_
            refine J_if_eq 83 79 dX9_held_76 rfl rfl (fun c13 => ?_) (fun c13 => ?_)
            · refine J_iconst 84 dX9_held_83 rfl ?_
              refine J_iadd 85 dX9_held_84 rfl ?_
              refine J_istore_n (i := 3) 86 dX9_held_85 rfl rfl (by decide) ?_
              refine J_iinc 89 dX9_held_86 rfl (by decide) rfl ?_
              refine J_goto 5 dX9_held_89 rfl ?_
              first
                | (exfalso; omega)
                | (refine J.wk (ih (i + 1) (d + 1) _ (by omega) (by omega) ?_) ⟨rfl, rfl, rfl, rfl, rfl, trivial⟩; rw [hst]; first | (rw [if_pos (show y = 0 by omega)]; first | (rw [if_pos (by omega)]; done) | (rw [if_neg (by omega)]; done)) | (rw [if_neg (show ¬ y = 0 by omega)]; first | (rw [if_pos (by omega)]; done) | (rw [if_neg (by omega)]; done)))
            · refine J_iconst 80 dX9_held_79 rfl ?_
              refine J_goto 84 dX9_held_80 rfl ?_
              refine J_iadd 85 dX9_held_84 rfl ?_
              refine J_istore_n (i := 3) 86 dX9_held_85 rfl rfl (by decide) ?_
              refine J_iinc 89 dX9_held_86 rfl (by decide) rfl ?_
              refine J_goto 5 dX9_held_89 rfl ?_
              first
                | (exfalso; omega)
                | (refine J.wk (ih (i + 1) (d + 1) _ (by omega) (by omega) ?_) ⟨rfl, rfl, rfl, rfl, rfl, trivial⟩; rw [hst]; first | (rw [if_pos (show y = 0 by omega)]; first | (rw [if_pos (by omega)]; done) | (rw [if_neg (by omega)]; done)) | (rw [if_neg (show ¬ y = 0 by omega)]; first | (rw [if_pos (by omega)]; done) | (rw [if_neg (by omega)]; done)))
          · refine J_iconst 67 dX9_held_66 rfl ?_
            refine J_goto 71 dX9_held_67 rfl ?_
            refine J_istore 73 dX9_held_71 rfl (by decide) ?_
            refine J_iload_n (i := 3) 74 dX9_held_73 rfl rfl rfl ?_
            refine J_iload 76 dX9_held_74 rfl rfl ?_
            refine J_if_eq 83 79 dX9_held_76 rfl rfl (fun c14 => ?_) (fun c14 => ?_)
            · refine J_iconst 84 dX9_held_83 rfl ?_
              refine J_iadd 85 dX9_held_84 rfl ?_
              refine J_istore_n (i := 3) 86 dX9_held_85 rfl rfl (by decide) ?_
              refine J_iinc 89 dX9_held_86 rfl (by decide) rfl ?_
              refine J_goto 5 dX9_held_89 rfl ?_
              first
                | (exfalso; omega)
                | (refine J.wk (ih (i + 1) (d + 1) _ (by omega) (by omega) ?_) ⟨rfl, rfl, rfl, rfl, rfl, trivial⟩; rw [hst]; first | (rw [if_pos (show y = 0 by omega)]; first | (rw [if_pos (by omega)]; done) | (rw [if_neg (by omega)]; done)) | (rw [if_neg (show ¬ y = 0 by omega)]; first | (rw [if_pos (by omega)]; done) | (rw [if_neg (by omega)]; done)))
            · refine J_iconst 80 dX9_held_79 rfl ?_
              refine J_goto 84 dX9_held_80 rfl ?_
              refine J_iadd 85 dX9_held_84 rfl ?_
              refine J_istore_n (i := 3) 86 dX9_held_85 rfl rfl (by decide) ?_
              refine J_iinc 89 dX9_held_86 rfl (by decide) rfl ?_
              refine J_goto 5 dX9_held_89 rfl ?_
              first
                | (exfalso; omega)
                | (refine J.wk (ih (i + 1) (d + 1) _ (by omega) (by omega) ?_) ⟨rfl, rfl, rfl, rfl, rfl, trivial⟩; rw [hst]; first | (rw [if_pos (show y = 0 by omega)]; first | (rw [if_pos (by omega)]; done) | (rw [if_neg (by omega)]; done)) | (rw [if_neg (show ¬ y = 0 by omega)]; first | (rw [if_pos (by omega)]; done) | (rw [if_neg (by omega)]; done)))
      · refine J_aload_n (i := 0) 19 dX9_held_18 rfl rfl rfl ?_
        refine J_getR 22 dX9_held_19 rfl fX9_16 rfl rfl ?_
        refine J_iload 24 dX9_held_22 rfl rfl ?_
        refine J_iald (N := 6) (lo := 0) (hi := 9) 25 dX9_held_24 rfl rfl rfl rfl (fun b15 b16 => ?_)
        refine J_if_le 42 28 dX9_held_25 rfl rfl (fun c17 => ?_) (fun c17 => ?_)
        · refine J_iconst 43 dX9_held_42 rfl ?_
          refine J_goto 71 dX9_held_43 rfl ?_
          refine J_istore 73 dX9_held_71 rfl (by decide) ?_
          refine J_iload_n (i := 3) 74 dX9_held_73 rfl rfl rfl ?_
          refine J_iload 76 dX9_held_74 rfl rfl ?_
          refine J_if_eq 83 79 dX9_held_76 rfl rfl (fun c18 => ?_) (fun c18 => ?_)
          · refine J_iconst 84 dX9_held_83 rfl ?_
            refine J_iadd 85 dX9_held_84 rfl ?_
            refine J_istore_n (i := 3) 86 dX9_held_85 rfl rfl (by decide) ?_
            refine J_iinc 89 dX9_held_86 rfl (by decide) rfl ?_
            refine J_goto 5 dX9_held_89 rfl ?_
            first
              | (exfalso; omega)
              | (refine J.wk (ih (i + 1) (d + 1) _ (by omega) (by omega) ?_) ⟨rfl, rfl, rfl, rfl, rfl, trivial⟩; rw [hst]; first | (rw [if_pos (show y = 0 by omega)]; first | (rw [if_pos (by omega)]; done) | (rw [if_neg (by omega)]; done)) | (rw [if_neg (show ¬ y = 0 by omega)]; first | (rw [if_pos (by omega)]; done) | (rw [if_neg (by omega)]; done)))
          · refine J_iconst 80 dX9_held_79 rfl ?_
            refine J_goto 84 dX9_held_80 rfl ?_
            refine J_iadd 85 dX9_held_84 rfl ?_
            refine J_istore_n (i := 3) 86 dX9_held_85 rfl rfl (by decide) ?_
            refine J_iinc 89 dX9_held_86 rfl (by decide) rfl ?_
            refine J_goto 5 dX9_held_89 rfl ?_
            first
              | (exfalso; omega)
              | (refine J.wk (ih (i + 1) (d + 1) _ (by omega) (by omega) ?_) ⟨rfl, rfl, rfl, rfl, rfl, trivial⟩; rw [hst]; first | (rw [if_pos (show y = 0 by omega)]; first | (rw [if_pos (by omega)]; done) | (rw [if_neg (by omega)]; done)) | (rw [if_neg (show ¬ y = 0 by omega)]; first | (rw [if_pos (by omega)]; done) | (rw [if_neg (by omega)]; done)))
        · refine J_aload_n (i := 0) 29 dX9_held_28 rfl rfl rfl ?_
          refine J_iload 31 dX9_held_29 rfl rfl ?_
          refine J_callVi 34 dX9_held_31 rfl kX9_171 mX9_look rfl rfl rfl (c_X9_look) (by first | decide | omega) rfl rfl (Nat.le_of_ble_eq_true rfl) (fun z20 s21 h19 => ?_)
          obtain ⟨rfl, rfl⟩ := h19
          refine J_iload_n (i := 1) 35 dX9_held_34 rfl rfl rfl ?_
          refine J_icmp_lt 42 38 dX9_held_35 rfl rfl (fun c22 => ?_) (fun c22 => ?_)
          · refine J_iconst 43 dX9_held_42 rfl ?_
            refine J_goto 71 dX9_held_43 rfl ?_
            refine J_istore 73 dX9_held_71 rfl (by decide) ?_
            refine J_iload_n (i := 3) 74 dX9_held_73 rfl rfl rfl ?_
            refine J_iload 76 dX9_held_74 rfl rfl ?_
            refine J_if_eq 83 79 dX9_held_76 rfl rfl (fun c23 => ?_) (fun c23 => ?_)
            · refine J_iconst 84 dX9_held_83 rfl ?_
              refine J_iadd 85 dX9_held_84 rfl ?_
              refine J_istore_n (i := 3) 86 dX9_held_85 rfl rfl (by decide) ?_
              refine J_iinc 89 dX9_held_86 rfl (by decide) rfl ?_
              refine J_goto 5 dX9_held_89 rfl ?_
              first
                | (exfalso; omega)
                | (refine J.wk (ih (i + 1) (d + 1) _ (by omega) (by omega) ?_) ⟨rfl, rfl, rfl, rfl, rfl, trivial⟩; rw [hst]; first | (rw [if_pos (show y = 0 by omega)]; first | (rw [if_pos (by omega)]; done) | (rw [if_neg (by omega)]; done)) | (rw [if_neg (show ¬ y = 0 by omega)]; first | (rw [if_pos (by omega)]; done) | (rw [if_neg (by omega)]; done)))
            · refine J_iconst 80 dX9_held_79 rfl ?_
              refine J_goto 84 dX9_held_80 rfl ?_
              refine J_iadd 85 dX9_held_84 rfl ?_
              refine J_istore_n (i := 3) 86 dX9_held_85 rfl rfl (by decide) ?_
              refine J_iinc 89 dX9_held_86 rfl (by decide) rfl ?_
              refine J_goto 5 dX9_held_89 rfl ?_
              first
                | (exfalso; omega)
                | (refine J.wk (ih (i + 1) (d + 1) _ (by omega) (by omega) ?_) ⟨rfl, rfl, rfl, rfl, rfl, trivial⟩; rw [hst]; first | (rw [if_pos (show y = 0 by omega)]; first | (rw [if_pos (by omega)]; done) | (rw [if_neg (by omega)]; done)) | (rw [if_neg (show ¬ y = 0 by omega)]; first | (rw [if_pos (by omega)]; done) | (rw [if_neg (by omega)]; done)))
          · refine J_iconst 39 dX9_held_38 rfl ?_
            refine J_goto 71 dX9_held_39 rfl ?_
            refine J_istore 73 dX9_held_71 rfl (by decide) ?_
            refine J_iload_n (i := 3) 74 dX9_held_73 rfl rfl rfl ?_
            refine J_iload 76 dX9_held_74 rfl rfl ?_
            refine J_if_eq 83 79 dX9_held_76 rfl rfl (fun c24 => ?_) (fun c24 => ?_)
            · refine J_iconst 84 dX9_held_83 rfl ?_
              refine J_iadd 85 dX9_held_84 rfl ?_
              refine J_istore_n (i := 3) 86 dX9_held_85 rfl rfl (by decide) ?_
              refine J_iinc 89 dX9_held_86 rfl (by decide) rfl ?_
              refine J_goto 5 dX9_held_89 rfl ?_
              first
                | (exfalso; omega)
                | (refine J.wk (ih (i + 1) (d + 1) _ (by omega) (by omega) ?_) ⟨rfl, rfl, rfl, rfl, rfl, trivial⟩; rw [hst]; first | (rw [if_pos (show y = 0 by omega)]; first | (rw [if_pos (by omega)]; done) | (rw [if_neg (by omega)]; done)) | (rw [if_neg (show ¬ y = 0 by omega)]; first | (rw [if_pos (by omega)]; done) | (rw [if_neg (by omega)]; done)))
            · refine J_iconst 80 dX9_held_79 rfl ?_
              refine J_goto 84 dX9_held_80 rfl ?_
              refine J_iadd 85 dX9_held_84 rfl ?_
              refine J_istore_n (i := 3) 86 dX9_held_85 rfl rfl (by decide) ?_
              refine J_iinc 89 dX9_held_86 rfl (by decide) rfl ?_
              refine J_goto 5 dX9_held_89 rfl ?_
              first
                | (exfalso; omega)
                | (refine J.wk (ih (i + 1) (d + 1) _ (by omega) (by omega) ?_) ⟨rfl, rfl, rfl, rfl, rfl, trivial⟩; rw [hst]; first | (rw [if_pos (show y = 0 by omega)]; first | (rw [if_pos (by omega)]; done) | (rw [if_neg (by omega)]; done)) | (rw [if_neg (show ¬ y = 0 by omega)]; first | (rw [if_pos (by omega)]; done) | (rw [if_neg (by omega)]; done)))
theorem c_X9_held (hx : inR x := by omega) (hy : inR y := by omega) : Ct P 2 yX9_held cX9_held 6 (some .int) [vr P 36, vi x, vi y] σ (rI (heldM (vR σ) x y (nM (vR σ))) σ) := by
  refine Ct.of _ rfl rfl rfl (Nat.le_of_ble_eq_true rfl) (fun hB => ?_)
  refine J_iconst 1 dX9_held_0 rfl ?_
  refine J_istore_n (i := 3) 2 dX9_held_1 rfl rfl (by decide) ?_
  refine J_iconst 3 dX9_held_2 rfl ?_
  refine J_istore 5 dX9_held_3 rfl (by decide) ?_
  refine J.wk (l_X9_held hx hy _ 0 _ _ (Nat.zero_add _) rfl ?_) ⟨rfl, rfl, rfl, rfl, rfl, trivial⟩
  unfold heldM
  split <;> rfl
theorem c_X9_lantern (hc : inR c) (hx : inR x) : Ct P 3 yX9_lantern cX9_lantern 3 (some .int) [vr P 36, vi c, vi x] σ (rI (if ¬ ((0 ≤ c ∧ c ≤ 30) ∧ 0 ≤ x ∧ x ≤ 1) then -2 else if ¬ 0 < σ 36 2 then -3 else if x = 0 then sumN (heldF (vR σ) c) (nM (vR σ)) else sumN (unheldF (vR σ) c) (nM (vR σ))) σ) := by
  refine Ct.of _ rfl rfl rfl (Nat.le_of_ble_eq_true rfl) (fun hB => ?_)
  refine J_iload_n (i := 1) 1 dX9_lantern_0 rfl rfl rfl ?_
  refine J_i2l 2 dX9_lantern_1 rfl ?_
  refine J_lconst (z := 0) 3 dX9_lantern_2 rfl rfl ?_
  refine J_ldc2 6 dX9_lantern_3 rfl cstX9_252 ?_
  refine J_callSi 9 dX9_lantern_6 rfl kX9_107 mX9_in (c_X9_in) (by first | decide | omega) rfl rfl (Nat.le_of_ble_eq_true rfl) (fun z2 s3 h1 => ?_)
  obtain ⟨rfl, rfl⟩ := h1
  refine J_bif_eq 22 12 dX9_lantern_9 rfl rfl (fun c4 => ?_) (fun c4 => ?_)
  · refine J_bipush 24 dX9_lantern_22 rfl (by decide) ?_
    refine J_iret dX9_lantern_24 rfl ?_
    refine ⟨?_, rfl⟩
    try unfold heldM
    first | (rw [if_pos (by omega)]; done) | (rw [if_neg (by omega), if_pos (by omega)]; done) | (rw [if_neg (by omega), if_neg (by omega)]; done)
  · refine J_iload_n (i := 2) 13 dX9_lantern_12 rfl rfl rfl ?_
    refine J_i2l 14 dX9_lantern_13 rfl ?_
    refine J_lconst (z := 0) 15 dX9_lantern_14 rfl rfl ?_
    refine J_lconst (z := 1) 16 dX9_lantern_15 rfl rfl ?_
    refine J_callSi 19 dX9_lantern_16 rfl kX9_107 mX9_in (c_X9_in) (by first | decide | omega) rfl rfl (Nat.le_of_ble_eq_true rfl) (fun z6 s7 h5 => ?_)
    obtain ⟨rfl, rfl⟩ := h5
    refine J_bif_ne 25 22 dX9_lantern_19 rfl rfl (fun c8 => ?_) (fun c8 => ?_)
    · refine J_aload_n (i := 0) 26 dX9_lantern_25 rfl rfl rfl ?_
      refine J_getI (jz := 2) (lo := 0) (hi := 6) 29 dX9_lantern_26 rfl fX9_104 rfl rfl rfl rfl (fun b9 b10 => ?_)
      refine J_if_ne 37 32 dX9_lantern_29 rfl rfl (fun c11 => ?_) (fun c11 => ?_)
      · refine J_aload_n (i := 0) 38 dX9_lantern_37 rfl rfl rfl ?_
        refine J_iload_n (i := 1) 39 dX9_lantern_38 rfl rfl rfl ?_
        refine J_iload_n (i := 2) 40 dX9_lantern_39 rfl rfl rfl ?_
        refine J_callVi 43 dX9_lantern_40 rfl kX9_254 mX9_held rfl rfl rfl (c_X9_held) (by first | decide | omega) rfl rfl (Nat.le_of_ble_eq_true rfl) (fun z13 s14 h12 => ?_)
        obtain ⟨rfl, rfl⟩ := h12
        refine J_iret dX9_lantern_43 rfl ?_
        refine ⟨?_, rfl⟩
        try unfold heldM
        first | (rw [if_pos (by omega)]; done) | (rw [if_neg (by omega), if_pos (by omega)]; done) | (rw [if_neg (by omega), if_neg (by omega)]; done)
      · refine J_bipush 34 dX9_lantern_32 rfl (by decide) ?_
        refine J_goto 43 dX9_lantern_34 rfl ?_
        refine J_iret dX9_lantern_43 rfl ?_
        refine ⟨?_, rfl⟩
        try unfold heldM
        first | (rw [if_pos (by omega)]; done) | (rw [if_neg (by omega), if_pos (by omega)]; done) | (rw [if_neg (by omega), if_neg (by omega)]; done)
    · refine J_bipush 24 dX9_lantern_22 rfl (by decide) ?_
      refine J_iret dX9_lantern_24 rfl ?_
      refine ⟨?_, rfl⟩
      try unfold heldM
      first | (rw [if_pos (by omega)]; done) | (rw [if_neg (by omega), if_pos (by omega)]; done) | (rw [if_neg (by omega), if_neg (by omega)]; done)
set_option maxHeartbeats 4000000 in
theorem l_X9_best : ∀ (k i : Nat) (d lo : Int), i + k = 30 → d = (i : Int) + 1 → lo = argm (misM (vR σ)) i → J P 3 (RX9, cX9_best, 3, some .int) 14 [some (vr P 36), some (vi lo), some (vi d)] [] σ (rI (argm (misM (vR σ)) 30) σ) := by
  intro k
  induction k with
  | zero =>
    intro i d lo hi hd hl
    have hab := argm_b (misM (vR σ)) i
    refine J_iload_n (i := 2) 15 dX9_best_14 rfl rfl rfl ?_
    refine J_bipush 17 dX9_best_15 rfl (by decide) ?_
    refine J_icmp_gt 61 20 dX9_best_17 rfl rfl (fun c1 => ?_) (fun c1 => ?_)
    · refine J_iload_n (i := 1) 62 dX9_best_61 rfl rfl rfl ?_
      refine J_iret dX9_best_62 rfl ?_
      refine ⟨?_, rfl⟩
      rw [Nat.add_zero] at hi
      rw [hl, hi]
    · exfalso; omega
  | succ k ih =>
    intro i d lo hi hd hl
    refine J.bd (fun hB => ?_)
    have hvB := vR_B hB
    have hab := argm_b (misM (vR σ)) i
    have hmb := misM_b hvB d
    have hfb := misM_b hvB lo
    have ed : ∀ q, heldM (vR σ) q 0 (nM (vR σ)) + heldM (vR σ) q 1 (nM (vR σ)) = misM (vR σ) q := fun q => rfl
    have ed1 := ed d
    have ed2 := ed lo
    have hst : argm (misM (vR σ)) (i + 1) = if misM (vR σ) d < misM (vR σ) lo then d else lo := by
      show (if _ < _ then _ else _) = _
      rw [hl, hd]
    refine J_iload_n (i := 2) 15 dX9_best_14 rfl rfl rfl ?_
    refine J_bipush 17 dX9_best_15 rfl (by decide) ?_
    refine J_icmp_gt 61 20 dX9_best_17 rfl rfl (fun c1 => ?_) (fun c1 => ?_)
    · exfalso; omega
    · refine J_aload_n (i := 0) 21 dX9_best_20 rfl rfl rfl ?_
      refine J_iload_n (i := 2) 22 dX9_best_21 rfl rfl rfl ?_
      refine J_iconst 23 dX9_best_22 rfl ?_
      refine J_callVi 26 dX9_best_23 rfl kX9_254 mX9_held rfl rfl rfl (c_X9_held) (by first | decide | omega) rfl rfl (Nat.le_of_ble_eq_true rfl) (fun z3 s4 h2 => ?_)
      obtain ⟨rfl, rfl⟩ := h2
      refine J_aload_n (i := 0) 27 dX9_best_26 rfl rfl rfl ?_
      refine J_iload_n (i := 2) 28 dX9_best_27 rfl rfl rfl ?_
      refine J_iconst 29 dX9_best_28 rfl ?_
      refine J_callVi 32 dX9_best_29 rfl kX9_254 mX9_held rfl rfl rfl (c_X9_held) (by first | decide | omega) rfl rfl (Nat.le_of_ble_eq_true rfl) (fun z6 s7 h5 => ?_)
      obtain ⟨rfl, rfl⟩ := h5
      refine J_iadd 33 dX9_best_32 rfl ?_
      refine J_aload_n (i := 0) 34 dX9_best_33 rfl rfl rfl ?_
      refine J_iload_n (i := 1) 35 dX9_best_34 rfl rfl rfl ?_
      refine J_iconst 36 dX9_best_35 rfl ?_
      refine J_callVi 39 dX9_best_36 rfl kX9_254 mX9_held rfl rfl rfl (c_X9_held) (by first | decide | omega) rfl rfl (Nat.le_of_ble_eq_true rfl) (fun z9 s10 h8 => ?_)
      obtain ⟨rfl, rfl⟩ := h8
      refine J_aload_n (i := 0) 40 dX9_best_39 rfl rfl rfl ?_
      refine J_iload_n (i := 1) 41 dX9_best_40 rfl rfl rfl ?_
      refine J_iconst 42 dX9_best_41 rfl ?_
      refine J_callVi 45 dX9_best_42 rfl kX9_254 mX9_held rfl rfl rfl (c_X9_held) (by first | decide | omega) rfl rfl (Nat.le_of_ble_eq_true rfl) (fun z12 s13 h11 => ?_)
      obtain ⟨rfl, rfl⟩ := h11
      refine J_iadd 46 dX9_best_45 rfl ?_
      refine J_icmp_ge 53 49 dX9_best_46 rfl rfl (fun c14 => ?_) (fun c14 => ?_)
      · refine J_iload_n (i := 1) 54 dX9_best_53 rfl rfl rfl ?_
        refine J_istore_n (i := 1) 55 dX9_best_54 rfl rfl (by decide) ?_
        refine J_iinc 58 dX9_best_55 rfl (by decide) rfl ?_
        refine J_goto 14 dX9_best_58 rfl ?_
        first
          | (rw [if_pos (by omega)] at hst; exact ih (i + 1) _ _ (by omega) (by omega) hst.symm)
          | (rw [if_neg (by omega)] at hst; exact ih (i + 1) (d + 1) lo (by omega) (by omega) hst.symm)
      · refine J_iload_n (i := 2) 50 dX9_best_49 rfl rfl rfl ?_
        refine J_goto 54 dX9_best_50 rfl ?_
        refine J_istore_n (i := 1) 55 dX9_best_54 rfl rfl (by decide) ?_
        refine J_iinc 58 dX9_best_55 rfl (by decide) rfl ?_
        refine J_goto 14 dX9_best_58 rfl ?_
        first
          | (rw [if_pos (by omega)] at hst; exact ih (i + 1) _ _ (by omega) (by omega) hst.symm)
          | (rw [if_neg (by omega)] at hst; exact ih (i + 1) (d + 1) lo (by omega) (by omega) hst.symm)
theorem c_X9_best : Ct P 3 yX9_best cX9_best 3 (some .int) [vr P 36] σ (rI (if ¬ 0 < σ 36 2 then -3 else argm (misM (vR σ)) 30) σ) := by
  refine Ct.of _ rfl rfl rfl (Nat.le_of_ble_eq_true rfl) (fun hB => ?_)
  refine J_aload_n (i := 0) 1 dX9_best_0 rfl rfl rfl ?_
  refine J_getI (jz := 2) (lo := 0) (hi := 6) 4 dX9_best_1 rfl fX9_104 rfl rfl rfl rfl (fun b1 b2 => ?_)
  refine J_if_ne 10 7 dX9_best_4 rfl rfl (fun c3 => ?_) (fun c3 => ?_)
  · refine J_iconst 11 dX9_best_10 rfl ?_
    refine J_istore_n (i := 1) 12 dX9_best_11 rfl rfl (by decide) ?_
    refine J_iconst 13 dX9_best_12 rfl ?_
    refine J_istore_n (i := 2) 14 dX9_best_13 rfl rfl (by decide) ?_
    rw [if_neg (by omega)]
    exact l_X9_best 30 0 _ _ rfl rfl rfl
  · refine J_bipush 9 dX9_best_7 rfl (by decide) ?_
    refine J_iret dX9_best_9 rfl ?_
    exact ⟨if_pos (by omega), rfl⟩
theorem c_X9_reading (hc : inR c) (hx : inR x) : Ct P 3 yX9_reading cX9_reading 3 (some .int) [vr P 36, vi c, vi x] σ (rI (aDig (σ 36 2) c x (if 8 ≤ σ 36 33 then -4 else σ 36 33)) (if (0 ≤ c ∧ c < σ 36 2) ∧ 0 ≤ x ∧ x ≤ 9 then (if 8 ≤ σ 36 33 then σ else jup (jup (jup σ 59 (σ 36 33) c) 60 (σ 36 33) x) 36 33 (σ 36 33 + 1)) else σ)) := by
  refine Ct.bd (fun hB => ?_)
  have hn : 0 ≤ σ 36 2 ∧ σ 36 2 ≤ 6 := hB 36 2
  refine Ct.of _ rfl rfl rfl (Nat.le_of_ble_eq_true rfl) (fun hB => ?_)
  refine J_aload_n (i := 0) 1 dX9_reading_0 rfl rfl rfl ?_
  refine J_iload_n (i := 1) 2 dX9_reading_1 rfl rfl rfl ?_
  refine J_callVi 5 dX9_reading_2 rfl kX9_180 mX9_noComer rfl rfl rfl (c_X9_noComer) (by first | decide | omega) rfl rfl (Nat.le_of_ble_eq_true rfl) (fun z2 s3 h1 => ?_)
  obtain ⟨rfl, rfl⟩ := h1
  refine J_bif_eq 10 8 dX9_reading_5 rfl rfl (fun c4 => ?_) (fun c4 => ?_)
  · refine J_iload_n (i := 2) 11 dX9_reading_10 rfl rfl rfl ?_
    refine J_callSi 14 dX9_reading_11 rfl kX9_198 mX9_isFigure (c_X9_isFigure) (by first | decide | omega) rfl rfl (Nat.le_of_ble_eq_true rfl) (fun z6 s7 h5 => ?_)
    obtain ⟨rfl, rfl⟩ := h5
    refine J_bif_ne 20 17 dX9_reading_14 rfl rfl (fun c8 => ?_) (fun c8 => ?_)
    · refine J_aload_n (i := 0) 21 dX9_reading_20 rfl rfl rfl ?_
      refine J_getI (jz := 33) (lo := 0) (hi := 8) 24 dX9_reading_21 rfl fX9_168 rfl rfl rfl rfl (fun b9 b10 => ?_)
      refine J_bipush 26 dX9_reading_24 rfl (by decide) ?_
      refine J_icmp_ne 32 29 dX9_reading_26 rfl rfl (fun c11 => ?_) (fun c11 => ?_)
      · refine J_aload_n (i := 0) 33 dX9_reading_32 rfl rfl rfl ?_
        refine J_getR 36 dX9_reading_33 rfl fX9_76 rfl rfl ?_
        refine J_aload_n (i := 0) 37 dX9_reading_36 rfl rfl rfl ?_
        refine J_getI (jz := 33) (lo := 0) (hi := 8) 40 dX9_reading_37 rfl fX9_168 rfl rfl rfl rfl (fun b12 b13 => ?_)
        refine J_iload_n (i := 1) 41 dX9_reading_40 rfl rfl rfl ?_
        refine J_iast (N := 8) (lo := 0) (hi := 5) 42 dX9_reading_41 rfl rfl rfl rfl ?_
        refine J_aload_n (i := 0) 43 dX9_reading_42 rfl rfl rfl ?_
        refine J_getR 46 dX9_reading_43 rfl fX9_79 rfl rfl ?_
        refine J_aload_n (i := 0) 47 dX9_reading_46 rfl rfl rfl ?_
        refine J_getI (jz := 33) (lo := 0) (hi := 8) 50 dX9_reading_47 rfl fX9_168 rfl rfl rfl rfl (fun b14 b15 => ?_)
        try simp +decide only [jup, jset, ↓reduceIte] at b14 b15 ⊢
        refine J_iload_n (i := 2) 51 dX9_reading_50 rfl rfl rfl ?_
        refine J_iast (N := 8) (lo := 0) (hi := 9) 52 dX9_reading_51 rfl rfl rfl rfl ?_
        refine J_aload_n (i := 0) 53 dX9_reading_52 rfl rfl rfl ?_
        refine J_dup 54 dX9_reading_53 rfl rfl ?_
        refine J_getI (jz := 33) (lo := 0) (hi := 8) 57 dX9_reading_54 rfl fX9_168 rfl rfl rfl rfl (fun b16 b17 => ?_)
        try simp +decide only [jup, jset, ↓reduceIte] at b16 b17 ⊢
        refine J_iconst 58 dX9_reading_57 rfl ?_
        refine J_iadd 59 dX9_reading_58 rfl ?_
        refine J_putI (jz := 33) (lo := 0) (hi := 8) 62 dX9_reading_59 rfl gX9_168 rfl rfl rfl rfl ?_
        refine J_aload_n (i := 0) 63 dX9_reading_62 rfl rfl rfl ?_
        refine J_getI (jz := 33) (lo := 0) (hi := 8) 66 dX9_reading_63 rfl fX9_168 rfl rfl rfl rfl (fun b18 b19 => ?_)
        try simp +decide only [jup, jset, ↓reduceIte] at b18 b19 ⊢
        refine J_iconst 67 dX9_reading_66 rfl ?_
        refine J_isub 68 dX9_reading_67 rfl ?_
        refine J_iret dX9_reading_68 rfl ?_
        refine ⟨?_, ?_⟩
        · unfold aDig
          first | (rw [if_pos (by omega)]; done) | (rw [if_neg (by omega), if_pos (by omega)]; done) | (rw [if_neg (by omega), if_neg (by omega), if_pos (by omega)]; done) | (rw [if_neg (by omega), if_neg (by omega), if_neg (by omega)]; omega)
        · first | (rw [if_neg (by omega)]; done) | (rw [if_pos (by omega), if_pos (by omega)]; done) | (rw [if_pos (by omega), if_neg (by omega)]; done)
      · refine J_bipush 31 dX9_reading_29 rfl (by decide) ?_
        refine J_iret dX9_reading_31 rfl ?_
        refine ⟨?_, ?_⟩
        · unfold aDig
          first | (rw [if_pos (by omega)]; done) | (rw [if_neg (by omega), if_pos (by omega)]; done) | (rw [if_neg (by omega), if_neg (by omega), if_pos (by omega)]; done) | (rw [if_neg (by omega), if_neg (by omega), if_neg (by omega)]; omega)
        · first | (rw [if_neg (by omega)]; done) | (rw [if_pos (by omega), if_pos (by omega)]; done) | (rw [if_pos (by omega), if_neg (by omega)]; done)
    · refine J_bipush 19 dX9_reading_17 rfl (by decide) ?_
      refine J_iret dX9_reading_19 rfl ?_
      refine ⟨?_, ?_⟩
      · unfold aDig
        first | (rw [if_pos (by omega)]; done) | (rw [if_neg (by omega), if_pos (by omega)]; done) | (rw [if_neg (by omega), if_neg (by omega), if_pos (by omega)]; done) | (rw [if_neg (by omega), if_neg (by omega), if_neg (by omega)]; omega)
      · first | (rw [if_neg (by omega)]; done) | (rw [if_pos (by omega), if_pos (by omega)]; done) | (rw [if_pos (by omega), if_neg (by omega)]; done)
  · refine J_iconst 9 dX9_reading_8 rfl ?_
    refine J_iret dX9_reading_9 rfl ?_
    refine ⟨?_, ?_⟩
    · unfold aDig
      first | (rw [if_pos (by omega)]; done) | (rw [if_neg (by omega), if_pos (by omega)]; done) | (rw [if_neg (by omega), if_neg (by omega), if_pos (by omega)]; done) | (rw [if_neg (by omega), if_neg (by omega), if_neg (by omega)]; omega)
    · first | (rw [if_neg (by omega)]; done) | (rw [if_pos (by omega), if_pos (by omega)]; done) | (rw [if_pos (by omega), if_neg (by omega)]; done)
theorem c_X9_back (hx : inR x) : Ct P 2 yX9_back cX9_back 2 (some .int) [vr P 36, vi x] σ (rI (if ¬ (0 ≤ x ∧ x ≤ σ 36 33) then -2 else σ 36 33 - x) (if 0 ≤ x ∧ x ≤ σ 36 33 then jup σ 36 33 (σ 36 33 - x) else σ)) := by
  refine Ct.of _ rfl rfl rfl (Nat.le_of_ble_eq_true rfl) (fun hB => ?_)
  refine J_iload_n (i := 1) 1 dX9_back_0 rfl rfl rfl ?_
  refine J_i2l 2 dX9_back_1 rfl ?_
  refine J_lconst (z := 0) 3 dX9_back_2 rfl rfl ?_
  refine J_aload_n (i := 0) 4 dX9_back_3 rfl rfl rfl ?_
  refine J_getI (jz := 33) (lo := 0) (hi := 8) 7 dX9_back_4 rfl fX9_168 rfl rfl rfl rfl (fun b1 b2 => ?_)
  refine J_i2l 8 dX9_back_7 rfl ?_
  refine J_callSi 11 dX9_back_8 rfl kX9_107 mX9_in (c_X9_in) (by first | decide | omega) rfl rfl (Nat.le_of_ble_eq_true rfl) (fun z4 s5 h3 => ?_)
  obtain ⟨rfl, rfl⟩ := h3
  refine J_bif_ne 17 14 dX9_back_11 rfl rfl (fun c6 => ?_) (fun c6 => ?_)
  · refine J_aload_n (i := 0) 18 dX9_back_17 rfl rfl rfl ?_
    refine J_dup 19 dX9_back_18 rfl rfl ?_
    refine J_getI (jz := 33) (lo := 0) (hi := 8) 22 dX9_back_19 rfl fX9_168 rfl rfl rfl rfl (fun b7 b8 => ?_)
    refine J_iload_n (i := 1) 23 dX9_back_22 rfl rfl rfl ?_
    refine J_isub 24 dX9_back_23 rfl ?_
    refine J_putI (jz := 33) (lo := 0) (hi := 8) 27 dX9_back_24 rfl gX9_168 rfl rfl rfl rfl ?_
    refine J_aload_n (i := 0) 28 dX9_back_27 rfl rfl rfl ?_
    refine J_getI (jz := 33) (lo := 0) (hi := 8) 31 dX9_back_28 rfl fX9_168 rfl rfl rfl rfl (fun b9 b10 => ?_)
    try simp +decide only [jup, jset, ↓reduceIte] at b9 b10 ⊢
    refine J_iret dX9_back_31 rfl ?_
    refine ⟨?_, ?_⟩
    · first | rfl | (rw [if_pos (by omega)]; first | done | rfl) | (rw [if_neg (by omega)]; first | done | rfl) | (rw [if_neg (by omega), if_pos (by omega)]; first | done | rfl) | (rw [if_neg (by omega), if_neg (by omega)]; first | done | rfl) | (rw [if_neg (by omega), if_neg (by omega), if_pos (by omega)]; first | done | rfl) | (rw [if_neg (by omega), if_neg (by omega), if_neg (by omega)]; first | done | rfl) | (rw [if_neg (by omega), if_neg (by omega), if_neg (by omega), if_pos (by omega)]; first | done | rfl) | (rw [if_neg (by omega), if_neg (by omega), if_neg (by omega), if_neg (by omega)]; first | done | rfl) | (rw [if_neg (by omega), if_neg (by omega), if_neg (by omega), if_neg (by omega), if_pos (by omega)]; first | done | rfl) | (rw [if_neg (by omega), if_neg (by omega), if_neg (by omega), if_neg (by omega), if_neg (by omega)]; first | done | rfl)
    · first | rfl | (rw [if_pos (by omega)]; first | done | rfl) | (rw [if_neg (by omega)]; first | done | rfl) | (rw [if_neg (by omega), if_pos (by omega)]; first | done | rfl) | (rw [if_neg (by omega), if_neg (by omega)]; first | done | rfl) | (rw [if_neg (by omega), if_neg (by omega), if_pos (by omega)]; first | done | rfl) | (rw [if_neg (by omega), if_neg (by omega), if_neg (by omega)]; first | done | rfl) | (rw [if_neg (by omega), if_neg (by omega), if_neg (by omega), if_pos (by omega)]; first | done | rfl) | (rw [if_neg (by omega), if_neg (by omega), if_neg (by omega), if_neg (by omega)]; first | done | rfl) | (rw [if_neg (by omega), if_neg (by omega), if_neg (by omega), if_neg (by omega), if_pos (by omega)]; first | done | rfl) | (rw [if_neg (by omega), if_neg (by omega), if_neg (by omega), if_neg (by omega), if_neg (by omega)]; first | done | rfl)
  · refine J_bipush 16 dX9_back_14 rfl (by decide) ?_
    refine J_iret dX9_back_16 rfl ?_
    refine ⟨?_, ?_⟩
    · first | rfl | (rw [if_pos (by omega)]; first | done | rfl) | (rw [if_neg (by omega)]; first | done | rfl) | (rw [if_neg (by omega), if_pos (by omega)]; first | done | rfl) | (rw [if_neg (by omega), if_neg (by omega)]; first | done | rfl) | (rw [if_neg (by omega), if_neg (by omega), if_pos (by omega)]; first | done | rfl) | (rw [if_neg (by omega), if_neg (by omega), if_neg (by omega)]; first | done | rfl) | (rw [if_neg (by omega), if_neg (by omega), if_neg (by omega), if_pos (by omega)]; first | done | rfl) | (rw [if_neg (by omega), if_neg (by omega), if_neg (by omega), if_neg (by omega)]; first | done | rfl) | (rw [if_neg (by omega), if_neg (by omega), if_neg (by omega), if_neg (by omega), if_pos (by omega)]; first | done | rfl) | (rw [if_neg (by omega), if_neg (by omega), if_neg (by omega), if_neg (by omega), if_neg (by omega)]; first | done | rfl)
    · first | rfl | (rw [if_pos (by omega)]; first | done | rfl) | (rw [if_neg (by omega)]; first | done | rfl) | (rw [if_neg (by omega), if_pos (by omega)]; first | done | rfl) | (rw [if_neg (by omega), if_neg (by omega)]; first | done | rfl) | (rw [if_neg (by omega), if_neg (by omega), if_pos (by omega)]; first | done | rfl) | (rw [if_neg (by omega), if_neg (by omega), if_neg (by omega)]; first | done | rfl) | (rw [if_neg (by omega), if_neg (by omega), if_neg (by omega), if_pos (by omega)]; first | done | rfl) | (rw [if_neg (by omega), if_neg (by omega), if_neg (by omega), if_neg (by omega)]; first | done | rfl) | (rw [if_neg (by omega), if_neg (by omega), if_neg (by omega), if_neg (by omega), if_pos (by omega)]; first | done | rfl) | (rw [if_neg (by omega), if_neg (by omega), if_neg (by omega), if_neg (by omega), if_neg (by omega)]; first | done | rfl)
theorem c_X9_traced (hx : 0 ≤ x ∧ x ≤ 9 := by omega) : Ct P 1 yX9_traced cX9_traced 2 none [vr P 36, vi x] σ (rV (jup σ 36 40 (trc (σ 36 40) x))) := by
  have hw := wr_b (31 * σ 36 40 + x)
  refine Ct.of _ rfl rfl rfl (Nat.le_of_ble_eq_true rfl) (fun hB => ?_)
  refine J_aload_n (i := 0) 1 dX9_traced_0 rfl rfl rfl ?_
  refine J_bipush 3 dX9_traced_1 rfl (by decide) ?_
  refine J_aload_n (i := 0) 4 dX9_traced_3 rfl rfl rfl ?_
  refine J_getI (jz := 40) (lo := (-2147483648)) (hi := 2147483647) 7 dX9_traced_4 rfl fX9_312 rfl rfl rfl rfl (fun b1 b2 => ?_)
  refine J_imul 8 dX9_traced_7 rfl ?_
  refine J_iload_n (i := 1) 9 dX9_traced_8 rfl rfl rfl ?_
  refine J_iadd 10 dX9_traced_9 rfl ?_
  refine J.wrap ?_
  refine J_putI (jz := 40) (lo := (-2147483648)) (hi := 2147483647) 13 dX9_traced_10 rfl gX9_312 rfl rfl rfl rfl ?_
  refine J_vret dX9_traced_13 rfl ?_
  exact rfl
theorem c_X9_tell (hc : inR c) : Ct P 3 yX9_tell cX9_tell 4 (some .int) [vr P 36, vi c] σ (rI (if ¬ (0 ≤ c ∧ c < σ 36 2) then -1 else if σ 38 c = 2 then σ 40 c + 100 + σ 40 c else if σ 38 c = 1 then σ 40 c + 100 else σ 40 c) (if ¬ (0 ≤ c ∧ c < σ 36 2) then σ else if σ 38 c = 2 then jup σ 36 40 (trc (trc (trc (trc (σ 36 40) 3) 2) 1) 1) else if σ 38 c = 1 then jup σ 36 40 (trc (trc (σ 36 40) 2) 1) else jup σ 36 40 (trc (σ 36 40) 1))) := by
  refine Ct.bd (fun hB => ?_)
  have hn : 0 ≤ σ 36 2 ∧ σ 36 2 ≤ 6 := hB 36 2
  have hk : 0 ≤ σ 38 c ∧ σ 38 c ≤ 2 := hB 38 c
  refine Ct.of _ rfl rfl rfl (Nat.le_of_ble_eq_true rfl) (fun hB => ?_)
  refine J.guard (fun Q0 hQ0 => ?_)
  refine J_aload_n (i := 0) 1 dX9_tell_0 rfl rfl rfl ?_
  refine J_iload_n (i := 1) 2 dX9_tell_1 rfl rfl rfl ?_
  refine J_callVi 5 dX9_tell_2 rfl kX9_180 mX9_noComer rfl rfl rfl (c_X9_noComer) (by first | decide | omega) rfl rfl (Nat.le_of_ble_eq_true rfl) (fun z2 s3 h1 => ?_)
  obtain ⟨rfl, rfl⟩ := h1
  refine J_bif_eq 10 8 dX9_tell_5 rfl rfl (fun c4 => ?_) (fun c4 => ?_)
  · refine J_aload_n (i := 0) 11 dX9_tell_10 rfl rfl rfl ?_
    refine J_getR 14 dX9_tell_11 rfl fX9_13 rfl rfl ?_
    refine J_iload_n (i := 1) 15 dX9_tell_14 rfl rfl rfl ?_
    refine J_iald (N := 6) (lo := 0) (hi := 2) 16 dX9_tell_15 rfl rfl rfl rfl (fun b5 b6 => ?_)
    refine J_istore_n (i := 2) 17 dX9_tell_16 rfl rfl (by decide) ?_
    refine J_iload_n (i := 2) 18 dX9_tell_17 rfl rfl rfl ?_
    refine J_iconst 19 dX9_tell_18 rfl ?_
    refine J_icmp_ne 27 22 dX9_tell_19 rfl rfl (fun c7 => ?_) (fun c7 => ?_)
    · refine J_iload_n (i := 2) 28 dX9_tell_27 rfl rfl rfl ?_
      refine J_if_le 36 31 dX9_tell_28 rfl rfl (fun c8 => ?_) (fun c8 => ?_)
      · refine J_aload_n (i := 0) 37 dX9_tell_36 rfl rfl rfl ?_
        refine J_iconst 38 dX9_tell_37 rfl ?_
        refine J_callVv 41 dX9_tell_38 rfl kX9_315 mX9_traced rfl rfl rfl (c_X9_traced) (by first | decide | omega) rfl rfl (Nat.le_of_ble_eq_true rfl) (fun s11 h9 => ?_)
        obtain rfl := h9
        refine J_iload_n (i := 2) 42 dX9_tell_41 rfl rfl rfl ?_
        refine J_iconst 43 dX9_tell_42 rfl ?_
        refine J_icmp_ne 51 46 dX9_tell_43 rfl rfl (fun c12 => ?_) (fun c12 => ?_)
        · refine J_aload_n (i := 0) 52 dX9_tell_51 rfl rfl rfl ?_
          refine J_getR 55 dX9_tell_52 rfl fX9_19 rfl rfl ?_
          refine J_iload_n (i := 1) 56 dX9_tell_55 rfl rfl rfl ?_
          refine J_iald (N := 6) (lo := 0) (hi := 9) 57 dX9_tell_56 rfl rfl rfl rfl (fun b13 b14 => ?_)
          try simp +decide only [jup, ↓reduceIte] at b13 b14 ⊢
          refine J_istore_n (i := 3) 58 dX9_tell_57 rfl rfl (by decide) ?_
          refine J_iload_n (i := 2) 59 dX9_tell_58 rfl rfl rfl ?_
          refine J_if_ne 66 62 dX9_tell_59 rfl rfl (fun c15 => ?_) (fun c15 => ?_)
          · refine J_iload_n (i := 2) 67 dX9_tell_66 rfl rfl rfl ?_
            refine J_iconst 68 dX9_tell_67 rfl ?_
            refine J_icmp_ne 78 71 dX9_tell_68 rfl rfl (fun c16 => ?_) (fun c16 => ?_)
            · refine J_iconst 79 dX9_tell_78 rfl ?_
              refine J_iload_n (i := 3) 80 dX9_tell_79 rfl rfl rfl ?_
              refine J_imul 81 dX9_tell_80 rfl ?_
              refine J_bipush 83 dX9_tell_81 rfl (by decide) ?_
              refine J_iadd 84 dX9_tell_83 rfl ?_
              subst hQ0
              refine J_iret dX9_tell_84 rfl ?_
              first
                | (exfalso; omega)
                | exact ⟨if_pos (by omega), if_pos (by omega)⟩
                | exact ⟨by (rw [if_neg (by omega), if_pos (by omega)]; first | done | rfl | omega), by (rw [if_neg (by omega), if_pos (by omega), jup_jup, jup_jup, jup_jup]; first | done | rfl)⟩
                | exact ⟨by (rw [if_neg (by omega), if_neg (by omega), if_pos (by omega)]; first | done | rfl | omega), by (rw [if_neg (by omega), if_neg (by omega), if_pos (by omega), jup_jup]; first | done | rfl)⟩
                | exact ⟨by (rw [if_neg (by omega), if_neg (by omega), if_neg (by omega)]; first | done | rfl | omega), by (rw [if_neg (by omega), if_neg (by omega), if_neg (by omega)]; first | done | rfl)⟩
            · refine J_iload_n (i := 3) 72 dX9_tell_71 rfl rfl rfl ?_
              refine J_bipush 74 dX9_tell_72 rfl (by decide) ?_
              refine J_iadd 75 dX9_tell_74 rfl ?_
              refine J_goto 84 dX9_tell_75 rfl ?_
              subst hQ0
              refine J_iret dX9_tell_84 rfl ?_
              first
                | (exfalso; omega)
                | exact ⟨if_pos (by omega), if_pos (by omega)⟩
                | exact ⟨by (rw [if_neg (by omega), if_pos (by omega)]; first | done | rfl | omega), by (rw [if_neg (by omega), if_pos (by omega), jup_jup, jup_jup, jup_jup]; first | done | rfl)⟩
                | exact ⟨by (rw [if_neg (by omega), if_neg (by omega), if_pos (by omega)]; first | done | rfl | omega), by (rw [if_neg (by omega), if_neg (by omega), if_pos (by omega), jup_jup]; first | done | rfl)⟩
                | exact ⟨by (rw [if_neg (by omega), if_neg (by omega), if_neg (by omega)]; first | done | rfl | omega), by (rw [if_neg (by omega), if_neg (by omega), if_neg (by omega)]; first | done | rfl)⟩
          · refine J_iload_n (i := 3) 63 dX9_tell_62 rfl rfl rfl ?_
            refine J_goto 84 dX9_tell_63 rfl ?_
            subst hQ0
            refine J_iret dX9_tell_84 rfl ?_
            first
              | (exfalso; omega)
              | exact ⟨if_pos (by omega), if_pos (by omega)⟩
              | exact ⟨by (rw [if_neg (by omega), if_pos (by omega)]; first | done | rfl | omega), by (rw [if_neg (by omega), if_pos (by omega), jup_jup, jup_jup, jup_jup]; first | done | rfl)⟩
              | exact ⟨by (rw [if_neg (by omega), if_neg (by omega), if_pos (by omega)]; first | done | rfl | omega), by (rw [if_neg (by omega), if_neg (by omega), if_pos (by omega), jup_jup]; first | done | rfl)⟩
              | exact ⟨by (rw [if_neg (by omega), if_neg (by omega), if_neg (by omega)]; first | done | rfl | omega), by (rw [if_neg (by omega), if_neg (by omega), if_neg (by omega)]; first | done | rfl)⟩
        · refine J_aload_n (i := 0) 47 dX9_tell_46 rfl rfl rfl ?_
          refine J_iconst 48 dX9_tell_47 rfl ?_
          refine J_callVv 51 dX9_tell_48 rfl kX9_315 mX9_traced rfl rfl rfl (c_X9_traced) (by first | decide | omega) rfl rfl (Nat.le_of_ble_eq_true rfl) (fun s19 h17 => ?_)
          obtain rfl := h17
          refine J_aload_n (i := 0) 52 dX9_tell_51 rfl rfl rfl ?_
          refine J_getR 55 dX9_tell_52 rfl fX9_19 rfl rfl ?_
          refine J_iload_n (i := 1) 56 dX9_tell_55 rfl rfl rfl ?_
          refine J_iald (N := 6) (lo := 0) (hi := 9) 57 dX9_tell_56 rfl rfl rfl rfl (fun b20 b21 => ?_)
          try simp +decide only [jup, ↓reduceIte] at b20 b21 ⊢
          refine J_istore_n (i := 3) 58 dX9_tell_57 rfl rfl (by decide) ?_
          refine J_iload_n (i := 2) 59 dX9_tell_58 rfl rfl rfl ?_
          refine J_if_ne 66 62 dX9_tell_59 rfl rfl (fun c22 => ?_) (fun c22 => ?_)
          · refine J_iload_n (i := 2) 67 dX9_tell_66 rfl rfl rfl ?_
            refine J_iconst 68 dX9_tell_67 rfl ?_
            refine J_icmp_ne 78 71 dX9_tell_68 rfl rfl (fun c23 => ?_) (fun c23 => ?_)
            · refine J_iconst 79 dX9_tell_78 rfl ?_
              refine J_iload_n (i := 3) 80 dX9_tell_79 rfl rfl rfl ?_
              refine J_imul 81 dX9_tell_80 rfl ?_
              refine J_bipush 83 dX9_tell_81 rfl (by decide) ?_
              refine J_iadd 84 dX9_tell_83 rfl ?_
              subst hQ0
              refine J_iret dX9_tell_84 rfl ?_
              first
                | (exfalso; omega)
                | exact ⟨if_pos (by omega), if_pos (by omega)⟩
                | exact ⟨by (rw [if_neg (by omega), if_pos (by omega)]; first | done | rfl | omega), by (rw [if_neg (by omega), if_pos (by omega), jup_jup, jup_jup, jup_jup]; first | done | rfl)⟩
                | exact ⟨by (rw [if_neg (by omega), if_neg (by omega), if_pos (by omega)]; first | done | rfl | omega), by (rw [if_neg (by omega), if_neg (by omega), if_pos (by omega), jup_jup]; first | done | rfl)⟩
                | exact ⟨by (rw [if_neg (by omega), if_neg (by omega), if_neg (by omega)]; first | done | rfl | omega), by (rw [if_neg (by omega), if_neg (by omega), if_neg (by omega)]; first | done | rfl)⟩
            · refine J_iload_n (i := 3) 72 dX9_tell_71 rfl rfl rfl ?_
              refine J_bipush 74 dX9_tell_72 rfl (by decide) ?_
              refine J_iadd 75 dX9_tell_74 rfl ?_
              refine J_goto 84 dX9_tell_75 rfl ?_
              subst hQ0
              refine J_iret dX9_tell_84 rfl ?_
              first
                | (exfalso; omega)
                | exact ⟨if_pos (by omega), if_pos (by omega)⟩
                | exact ⟨by (rw [if_neg (by omega), if_pos (by omega)]; first | done | rfl | omega), by (rw [if_neg (by omega), if_pos (by omega), jup_jup, jup_jup, jup_jup]; first | done | rfl)⟩
                | exact ⟨by (rw [if_neg (by omega), if_neg (by omega), if_pos (by omega)]; first | done | rfl | omega), by (rw [if_neg (by omega), if_neg (by omega), if_pos (by omega), jup_jup]; first | done | rfl)⟩
                | exact ⟨by (rw [if_neg (by omega), if_neg (by omega), if_neg (by omega)]; first | done | rfl | omega), by (rw [if_neg (by omega), if_neg (by omega), if_neg (by omega)]; first | done | rfl)⟩
          · refine J_iload_n (i := 3) 63 dX9_tell_62 rfl rfl rfl ?_
            refine J_goto 84 dX9_tell_63 rfl ?_
            subst hQ0
            refine J_iret dX9_tell_84 rfl ?_
            first
              | (exfalso; omega)
              | exact ⟨if_pos (by omega), if_pos (by omega)⟩
              | exact ⟨by (rw [if_neg (by omega), if_pos (by omega)]; first | done | rfl | omega), by (rw [if_neg (by omega), if_pos (by omega), jup_jup, jup_jup, jup_jup]; first | done | rfl)⟩
              | exact ⟨by (rw [if_neg (by omega), if_neg (by omega), if_pos (by omega)]; first | done | rfl | omega), by (rw [if_neg (by omega), if_neg (by omega), if_pos (by omega), jup_jup]; first | done | rfl)⟩
              | exact ⟨by (rw [if_neg (by omega), if_neg (by omega), if_neg (by omega)]; first | done | rfl | omega), by (rw [if_neg (by omega), if_neg (by omega), if_neg (by omega)]; first | done | rfl)⟩
      · refine J_aload_n (i := 0) 32 dX9_tell_31 rfl rfl rfl ?_
        refine J_iconst 33 dX9_tell_32 rfl ?_
        refine J_callVv 36 dX9_tell_33 rfl kX9_315 mX9_traced rfl rfl rfl (c_X9_traced) (by first | decide | omega) rfl rfl (Nat.le_of_ble_eq_true rfl) (fun s26 h24 => ?_)
        obtain rfl := h24
        refine J_aload_n (i := 0) 37 dX9_tell_36 rfl rfl rfl ?_
        refine J_iconst 38 dX9_tell_37 rfl ?_
        refine J_callVv 41 dX9_tell_38 rfl kX9_315 mX9_traced rfl rfl rfl (c_X9_traced) (by first | decide | omega) rfl rfl (Nat.le_of_ble_eq_true rfl) (fun s29 h27 => ?_)
        obtain rfl := h27
        refine J_iload_n (i := 2) 42 dX9_tell_41 rfl rfl rfl ?_
        refine J_iconst 43 dX9_tell_42 rfl ?_
        refine J_icmp_ne 51 46 dX9_tell_43 rfl rfl (fun c30 => ?_) (fun c30 => ?_)
        · refine J_aload_n (i := 0) 52 dX9_tell_51 rfl rfl rfl ?_
          refine J_getR 55 dX9_tell_52 rfl fX9_19 rfl rfl ?_
          refine J_iload_n (i := 1) 56 dX9_tell_55 rfl rfl rfl ?_
          refine J_iald (N := 6) (lo := 0) (hi := 9) 57 dX9_tell_56 rfl rfl rfl rfl (fun b31 b32 => ?_)
          try simp +decide only [jup, ↓reduceIte] at b31 b32 ⊢
          refine J_istore_n (i := 3) 58 dX9_tell_57 rfl rfl (by decide) ?_
          refine J_iload_n (i := 2) 59 dX9_tell_58 rfl rfl rfl ?_
          refine J_if_ne 66 62 dX9_tell_59 rfl rfl (fun c33 => ?_) (fun c33 => ?_)
          · refine J_iload_n (i := 2) 67 dX9_tell_66 rfl rfl rfl ?_
            refine J_iconst 68 dX9_tell_67 rfl ?_
            refine J_icmp_ne 78 71 dX9_tell_68 rfl rfl (fun c34 => ?_) (fun c34 => ?_)
            · refine J_iconst 79 dX9_tell_78 rfl ?_
              refine J_iload_n (i := 3) 80 dX9_tell_79 rfl rfl rfl ?_
              refine J_imul 81 dX9_tell_80 rfl ?_
              refine J_bipush 83 dX9_tell_81 rfl (by decide) ?_
              refine J_iadd 84 dX9_tell_83 rfl ?_
              subst hQ0
              refine J_iret dX9_tell_84 rfl ?_
              first
                | (exfalso; omega)
                | exact ⟨if_pos (by omega), if_pos (by omega)⟩
                | exact ⟨by (rw [if_neg (by omega), if_pos (by omega)]; first | done | rfl | omega), by (rw [if_neg (by omega), if_pos (by omega), jup_jup, jup_jup, jup_jup]; first | done | rfl)⟩
                | exact ⟨by (rw [if_neg (by omega), if_neg (by omega), if_pos (by omega)]; first | done | rfl | omega), by (rw [if_neg (by omega), if_neg (by omega), if_pos (by omega), jup_jup]; first | done | rfl)⟩
                | exact ⟨by (rw [if_neg (by omega), if_neg (by omega), if_neg (by omega)]; first | done | rfl | omega), by (rw [if_neg (by omega), if_neg (by omega), if_neg (by omega)]; first | done | rfl)⟩
            · refine J_iload_n (i := 3) 72 dX9_tell_71 rfl rfl rfl ?_
              refine J_bipush 74 dX9_tell_72 rfl (by decide) ?_
              refine J_iadd 75 dX9_tell_74 rfl ?_
              refine J_goto 84 dX9_tell_75 rfl ?_
              subst hQ0
              refine J_iret dX9_tell_84 rfl ?_
              first
                | (exfalso; omega)
                | exact ⟨if_pos (by omega), if_pos (by omega)⟩
                | exact ⟨by (rw [if_neg (by omega), if_pos (by omega)]; first | done | rfl | omega), by (rw [if_neg (by omega), if_pos (by omega), jup_jup, jup_jup, jup_jup]; first | done | rfl)⟩
                | exact ⟨by (rw [if_neg (by omega), if_neg (by omega), if_pos (by omega)]; first | done | rfl | omega), by (rw [if_neg (by omega), if_neg (by omega), if_pos (by omega), jup_jup]; first | done | rfl)⟩
                | exact ⟨by (rw [if_neg (by omega), if_neg (by omega), if_neg (by omega)]; first | done | rfl | omega), by (rw [if_neg (by omega), if_neg (by omega), if_neg (by omega)]; first | done | rfl)⟩
          · refine J_iload_n (i := 3) 63 dX9_tell_62 rfl rfl rfl ?_
            refine J_goto 84 dX9_tell_63 rfl ?_
            subst hQ0
            refine J_iret dX9_tell_84 rfl ?_
            first
              | (exfalso; omega)
              | exact ⟨if_pos (by omega), if_pos (by omega)⟩
              | exact ⟨by (rw [if_neg (by omega), if_pos (by omega)]; first | done | rfl | omega), by (rw [if_neg (by omega), if_pos (by omega), jup_jup, jup_jup, jup_jup]; first | done | rfl)⟩
              | exact ⟨by (rw [if_neg (by omega), if_neg (by omega), if_pos (by omega)]; first | done | rfl | omega), by (rw [if_neg (by omega), if_neg (by omega), if_pos (by omega), jup_jup]; first | done | rfl)⟩
              | exact ⟨by (rw [if_neg (by omega), if_neg (by omega), if_neg (by omega)]; first | done | rfl | omega), by (rw [if_neg (by omega), if_neg (by omega), if_neg (by omega)]; first | done | rfl)⟩
        · refine J_aload_n (i := 0) 47 dX9_tell_46 rfl rfl rfl ?_
          refine J_iconst 48 dX9_tell_47 rfl ?_
          refine J_callVv 51 dX9_tell_48 rfl kX9_315 mX9_traced rfl rfl rfl (c_X9_traced) (by first | decide | omega) rfl rfl (Nat.le_of_ble_eq_true rfl) (fun s37 h35 => ?_)
          obtain rfl := h35
          refine J_aload_n (i := 0) 52 dX9_tell_51 rfl rfl rfl ?_
          refine J_getR 55 dX9_tell_52 rfl fX9_19 rfl rfl ?_
          refine J_iload_n (i := 1) 56 dX9_tell_55 rfl rfl rfl ?_
          refine J_iald (N := 6) (lo := 0) (hi := 9) 57 dX9_tell_56 rfl rfl rfl rfl (fun b38 b39 => ?_)
          try simp +decide only [jup, ↓reduceIte] at b38 b39 ⊢
          refine J_istore_n (i := 3) 58 dX9_tell_57 rfl rfl (by decide) ?_
          refine J_iload_n (i := 2) 59 dX9_tell_58 rfl rfl rfl ?_
          refine J_if_ne 66 62 dX9_tell_59 rfl rfl (fun c40 => ?_) (fun c40 => ?_)
          · refine J_iload_n (i := 2) 67 dX9_tell_66 rfl rfl rfl ?_
            refine J_iconst 68 dX9_tell_67 rfl ?_
            refine J_icmp_ne 78 71 dX9_tell_68 rfl rfl (fun c41 => ?_) (fun c41 => ?_)
            · refine J_iconst 79 dX9_tell_78 rfl ?_
              refine J_iload_n (i := 3) 80 dX9_tell_79 rfl rfl rfl ?_
              refine J_imul 81 dX9_tell_80 rfl ?_
              refine J_bipush 83 dX9_tell_81 rfl (by decide) ?_
              refine J_iadd 84 dX9_tell_83 rfl ?_
              subst hQ0
              refine J_iret dX9_tell_84 rfl ?_
              first
                | (exfalso; omega)
                | exact ⟨if_pos (by omega), if_pos (by omega)⟩
                | exact ⟨by (rw [if_neg (by omega), if_pos (by omega)]; first | done | rfl | omega), by (rw [if_neg (by omega), if_pos (by omega), jup_jup, jup_jup, jup_jup]; first | done | rfl)⟩
                | exact ⟨by (rw [if_neg (by omega), if_neg (by omega), if_pos (by omega)]; first | done | rfl | omega), by (rw [if_neg (by omega), if_neg (by omega), if_pos (by omega), jup_jup]; first | done | rfl)⟩
                | exact ⟨by (rw [if_neg (by omega), if_neg (by omega), if_neg (by omega)]; first | done | rfl | omega), by (rw [if_neg (by omega), if_neg (by omega), if_neg (by omega)]; first | done | rfl)⟩
            · refine J_iload_n (i := 3) 72 dX9_tell_71 rfl rfl rfl ?_
              refine J_bipush 74 dX9_tell_72 rfl (by decide) ?_
              refine J_iadd 75 dX9_tell_74 rfl ?_
              refine J_goto 84 dX9_tell_75 rfl ?_
              subst hQ0
              refine J_iret dX9_tell_84 rfl ?_
              first
                | (exfalso; omega)
                | exact ⟨if_pos (by omega), if_pos (by omega)⟩
                | exact ⟨by (rw [if_neg (by omega), if_pos (by omega)]; first | done | rfl | omega), by (rw [if_neg (by omega), if_pos (by omega), jup_jup, jup_jup, jup_jup]; first | done | rfl)⟩
                | exact ⟨by (rw [if_neg (by omega), if_neg (by omega), if_pos (by omega)]; first | done | rfl | omega), by (rw [if_neg (by omega), if_neg (by omega), if_pos (by omega), jup_jup]; first | done | rfl)⟩
                | exact ⟨by (rw [if_neg (by omega), if_neg (by omega), if_neg (by omega)]; first | done | rfl | omega), by (rw [if_neg (by omega), if_neg (by omega), if_neg (by omega)]; first | done | rfl)⟩
          · refine J_iload_n (i := 3) 63 dX9_tell_62 rfl rfl rfl ?_
            refine J_goto 84 dX9_tell_63 rfl ?_
            subst hQ0
            refine J_iret dX9_tell_84 rfl ?_
            first
              | (exfalso; omega)
              | exact ⟨if_pos (by omega), if_pos (by omega)⟩
              | exact ⟨by (rw [if_neg (by omega), if_pos (by omega)]; first | done | rfl | omega), by (rw [if_neg (by omega), if_pos (by omega), jup_jup, jup_jup, jup_jup]; first | done | rfl)⟩
              | exact ⟨by (rw [if_neg (by omega), if_neg (by omega), if_pos (by omega)]; first | done | rfl | omega), by (rw [if_neg (by omega), if_neg (by omega), if_pos (by omega), jup_jup]; first | done | rfl)⟩
              | exact ⟨by (rw [if_neg (by omega), if_neg (by omega), if_neg (by omega)]; first | done | rfl | omega), by (rw [if_neg (by omega), if_neg (by omega), if_neg (by omega)]; first | done | rfl)⟩
    · refine J_aload_n (i := 0) 23 dX9_tell_22 rfl rfl rfl ?_
      refine J_iconst 24 dX9_tell_23 rfl ?_
      refine J_callVv 27 dX9_tell_24 rfl kX9_315 mX9_traced rfl rfl rfl (c_X9_traced) (by first | decide | omega) rfl rfl (Nat.le_of_ble_eq_true rfl) (fun s44 h42 => ?_)
      obtain rfl := h42
      refine J_iload_n (i := 2) 28 dX9_tell_27 rfl rfl rfl ?_
      refine J_if_le 36 31 dX9_tell_28 rfl rfl (fun c45 => ?_) (fun c45 => ?_)
      · refine J_aload_n (i := 0) 37 dX9_tell_36 rfl rfl rfl ?_
        refine J_iconst 38 dX9_tell_37 rfl ?_
        refine J_callVv 41 dX9_tell_38 rfl kX9_315 mX9_traced rfl rfl rfl (c_X9_traced) (by first | decide | omega) rfl rfl (Nat.le_of_ble_eq_true rfl) (fun s48 h46 => ?_)
        obtain rfl := h46
        refine J_iload_n (i := 2) 42 dX9_tell_41 rfl rfl rfl ?_
        refine J_iconst 43 dX9_tell_42 rfl ?_
        refine J_icmp_ne 51 46 dX9_tell_43 rfl rfl (fun c49 => ?_) (fun c49 => ?_)
        · refine J_aload_n (i := 0) 52 dX9_tell_51 rfl rfl rfl ?_
          refine J_getR 55 dX9_tell_52 rfl fX9_19 rfl rfl ?_
          refine J_iload_n (i := 1) 56 dX9_tell_55 rfl rfl rfl ?_
          refine J_iald (N := 6) (lo := 0) (hi := 9) 57 dX9_tell_56 rfl rfl rfl rfl (fun b50 b51 => ?_)
          try simp +decide only [jup, ↓reduceIte] at b50 b51 ⊢
          refine J_istore_n (i := 3) 58 dX9_tell_57 rfl rfl (by decide) ?_
          refine J_iload_n (i := 2) 59 dX9_tell_58 rfl rfl rfl ?_
          refine J_if_ne 66 62 dX9_tell_59 rfl rfl (fun c52 => ?_) (fun c52 => ?_)
          · refine J_iload_n (i := 2) 67 dX9_tell_66 rfl rfl rfl ?_
            refine J_iconst 68 dX9_tell_67 rfl ?_
            refine J_icmp_ne 78 71 dX9_tell_68 rfl rfl (fun c53 => ?_) (fun c53 => ?_)
            · refine J_iconst 79 dX9_tell_78 rfl ?_
              refine J_iload_n (i := 3) 80 dX9_tell_79 rfl rfl rfl ?_
              refine J_imul 81 dX9_tell_80 rfl ?_
              refine J_bipush 83 dX9_tell_81 rfl (by decide) ?_
              refine J_iadd 84 dX9_tell_83 rfl ?_
              subst hQ0
              refine J_iret dX9_tell_84 rfl ?_
              first
                | (exfalso; omega)
                | exact ⟨if_pos (by omega), if_pos (by omega)⟩
                | exact ⟨by (rw [if_neg (by omega), if_pos (by omega)]; first | done | rfl | omega), by (rw [if_neg (by omega), if_pos (by omega), jup_jup, jup_jup, jup_jup]; first | done | rfl)⟩
                | exact ⟨by (rw [if_neg (by omega), if_neg (by omega), if_pos (by omega)]; first | done | rfl | omega), by (rw [if_neg (by omega), if_neg (by omega), if_pos (by omega), jup_jup]; first | done | rfl)⟩
                | exact ⟨by (rw [if_neg (by omega), if_neg (by omega), if_neg (by omega)]; first | done | rfl | omega), by (rw [if_neg (by omega), if_neg (by omega), if_neg (by omega)]; first | done | rfl)⟩
            · refine J_iload_n (i := 3) 72 dX9_tell_71 rfl rfl rfl ?_
              refine J_bipush 74 dX9_tell_72 rfl (by decide) ?_
              refine J_iadd 75 dX9_tell_74 rfl ?_
              refine J_goto 84 dX9_tell_75 rfl ?_
              subst hQ0
              refine J_iret dX9_tell_84 rfl ?_
              first
                | (exfalso; omega)
                | exact ⟨if_pos (by omega), if_pos (by omega)⟩
                | exact ⟨by (rw [if_neg (by omega), if_pos (by omega)]; first | done | rfl | omega), by (rw [if_neg (by omega), if_pos (by omega), jup_jup, jup_jup, jup_jup]; first | done | rfl)⟩
                | exact ⟨by (rw [if_neg (by omega), if_neg (by omega), if_pos (by omega)]; first | done | rfl | omega), by (rw [if_neg (by omega), if_neg (by omega), if_pos (by omega), jup_jup]; first | done | rfl)⟩
                | exact ⟨by (rw [if_neg (by omega), if_neg (by omega), if_neg (by omega)]; first | done | rfl | omega), by (rw [if_neg (by omega), if_neg (by omega), if_neg (by omega)]; first | done | rfl)⟩
          · refine J_iload_n (i := 3) 63 dX9_tell_62 rfl rfl rfl ?_
            refine J_goto 84 dX9_tell_63 rfl ?_
            subst hQ0
            refine J_iret dX9_tell_84 rfl ?_
            first
              | (exfalso; omega)
              | exact ⟨if_pos (by omega), if_pos (by omega)⟩
              | exact ⟨by (rw [if_neg (by omega), if_pos (by omega)]; first | done | rfl | omega), by (rw [if_neg (by omega), if_pos (by omega), jup_jup, jup_jup, jup_jup]; first | done | rfl)⟩
              | exact ⟨by (rw [if_neg (by omega), if_neg (by omega), if_pos (by omega)]; first | done | rfl | omega), by (rw [if_neg (by omega), if_neg (by omega), if_pos (by omega), jup_jup]; first | done | rfl)⟩
              | exact ⟨by (rw [if_neg (by omega), if_neg (by omega), if_neg (by omega)]; first | done | rfl | omega), by (rw [if_neg (by omega), if_neg (by omega), if_neg (by omega)]; first | done | rfl)⟩
        · refine J_aload_n (i := 0) 47 dX9_tell_46 rfl rfl rfl ?_
          refine J_iconst 48 dX9_tell_47 rfl ?_
          refine J_callVv 51 dX9_tell_48 rfl kX9_315 mX9_traced rfl rfl rfl (c_X9_traced) (by first | decide | omega) rfl rfl (Nat.le_of_ble_eq_true rfl) (fun s56 h54 => ?_)
          obtain rfl := h54
          refine J_aload_n (i := 0) 52 dX9_tell_51 rfl rfl rfl ?_
          refine J_getR 55 dX9_tell_52 rfl fX9_19 rfl rfl ?_
          refine J_iload_n (i := 1) 56 dX9_tell_55 rfl rfl rfl ?_
          refine J_iald (N := 6) (lo := 0) (hi := 9) 57 dX9_tell_56 rfl rfl rfl rfl (fun b57 b58 => ?_)
          try simp +decide only [jup, ↓reduceIte] at b57 b58 ⊢
          refine J_istore_n (i := 3) 58 dX9_tell_57 rfl rfl (by decide) ?_
          refine J_iload_n (i := 2) 59 dX9_tell_58 rfl rfl rfl ?_
          refine J_if_ne 66 62 dX9_tell_59 rfl rfl (fun c59 => ?_) (fun c59 => ?_)
          · refine J_iload_n (i := 2) 67 dX9_tell_66 rfl rfl rfl ?_
            refine J_iconst 68 dX9_tell_67 rfl ?_
            refine J_icmp_ne 78 71 dX9_tell_68 rfl rfl (fun c60 => ?_) (fun c60 => ?_)
            · refine J_iconst 79 dX9_tell_78 rfl ?_
              refine J_iload_n (i := 3) 80 dX9_tell_79 rfl rfl rfl ?_
              refine J_imul 81 dX9_tell_80 rfl ?_
              refine J_bipush 83 dX9_tell_81 rfl (by decide) ?_
              refine J_iadd 84 dX9_tell_83 rfl ?_
              subst hQ0
              refine J_iret dX9_tell_84 rfl ?_
              first
                | (exfalso; omega)
                | exact ⟨if_pos (by omega), if_pos (by omega)⟩
                | exact ⟨by (rw [if_neg (by omega), if_pos (by omega)]; first | done | rfl | omega), by (rw [if_neg (by omega), if_pos (by omega), jup_jup, jup_jup, jup_jup]; first | done | rfl)⟩
                | exact ⟨by (rw [if_neg (by omega), if_neg (by omega), if_pos (by omega)]; first | done | rfl | omega), by (rw [if_neg (by omega), if_neg (by omega), if_pos (by omega), jup_jup]; first | done | rfl)⟩
                | exact ⟨by (rw [if_neg (by omega), if_neg (by omega), if_neg (by omega)]; first | done | rfl | omega), by (rw [if_neg (by omega), if_neg (by omega), if_neg (by omega)]; first | done | rfl)⟩
            · refine J_iload_n (i := 3) 72 dX9_tell_71 rfl rfl rfl ?_
              refine J_bipush 74 dX9_tell_72 rfl (by decide) ?_
              refine J_iadd 75 dX9_tell_74 rfl ?_
              refine J_goto 84 dX9_tell_75 rfl ?_
              subst hQ0
              refine J_iret dX9_tell_84 rfl ?_
              first
                | (exfalso; omega)
                | exact ⟨if_pos (by omega), if_pos (by omega)⟩
                | exact ⟨by (rw [if_neg (by omega), if_pos (by omega)]; first | done | rfl | omega), by (rw [if_neg (by omega), if_pos (by omega), jup_jup, jup_jup, jup_jup]; first | done | rfl)⟩
                | exact ⟨by (rw [if_neg (by omega), if_neg (by omega), if_pos (by omega)]; first | done | rfl | omega), by (rw [if_neg (by omega), if_neg (by omega), if_pos (by omega), jup_jup]; first | done | rfl)⟩
                | exact ⟨by (rw [if_neg (by omega), if_neg (by omega), if_neg (by omega)]; first | done | rfl | omega), by (rw [if_neg (by omega), if_neg (by omega), if_neg (by omega)]; first | done | rfl)⟩
          · refine J_iload_n (i := 3) 63 dX9_tell_62 rfl rfl rfl ?_
            refine J_goto 84 dX9_tell_63 rfl ?_
            subst hQ0
            refine J_iret dX9_tell_84 rfl ?_
            first
              | (exfalso; omega)
              | exact ⟨if_pos (by omega), if_pos (by omega)⟩
              | exact ⟨by (rw [if_neg (by omega), if_pos (by omega)]; first | done | rfl | omega), by (rw [if_neg (by omega), if_pos (by omega), jup_jup, jup_jup, jup_jup]; first | done | rfl)⟩
              | exact ⟨by (rw [if_neg (by omega), if_neg (by omega), if_pos (by omega)]; first | done | rfl | omega), by (rw [if_neg (by omega), if_neg (by omega), if_pos (by omega), jup_jup]; first | done | rfl)⟩
              | exact ⟨by (rw [if_neg (by omega), if_neg (by omega), if_neg (by omega)]; first | done | rfl | omega), by (rw [if_neg (by omega), if_neg (by omega), if_neg (by omega)]; first | done | rfl)⟩
      · refine J_aload_n (i := 0) 32 dX9_tell_31 rfl rfl rfl ?_
        refine J_iconst 33 dX9_tell_32 rfl ?_
        refine J_callVv 36 dX9_tell_33 rfl kX9_315 mX9_traced rfl rfl rfl (c_X9_traced) (by first | decide | omega) rfl rfl (Nat.le_of_ble_eq_true rfl) (fun s63 h61 => ?_)
        obtain rfl := h61
        refine J_aload_n (i := 0) 37 dX9_tell_36 rfl rfl rfl ?_
        refine J_iconst 38 dX9_tell_37 rfl ?_
        refine J_callVv 41 dX9_tell_38 rfl kX9_315 mX9_traced rfl rfl rfl (c_X9_traced) (by first | decide | omega) rfl rfl (Nat.le_of_ble_eq_true rfl) (fun s66 h64 => ?_)
        obtain rfl := h64
        refine J_iload_n (i := 2) 42 dX9_tell_41 rfl rfl rfl ?_
        refine J_iconst 43 dX9_tell_42 rfl ?_
        refine J_icmp_ne 51 46 dX9_tell_43 rfl rfl (fun c67 => ?_) (fun c67 => ?_)
        · refine J_aload_n (i := 0) 52 dX9_tell_51 rfl rfl rfl ?_
          refine J_getR 55 dX9_tell_52 rfl fX9_19 rfl rfl ?_
          refine J_iload_n (i := 1) 56 dX9_tell_55 rfl rfl rfl ?_
          refine J_iald (N := 6) (lo := 0) (hi := 9) 57 dX9_tell_56 rfl rfl rfl rfl (fun b68 b69 => ?_)
          try simp +decide only [jup, ↓reduceIte] at b68 b69 ⊢
          refine J_istore_n (i := 3) 58 dX9_tell_57 rfl rfl (by decide) ?_
          refine J_iload_n (i := 2) 59 dX9_tell_58 rfl rfl rfl ?_
          refine J_if_ne 66 62 dX9_tell_59 rfl rfl (fun c70 => ?_) (fun c70 => ?_)
          · refine J_iload_n (i := 2) 67 dX9_tell_66 rfl rfl rfl ?_
            refine J_iconst 68 dX9_tell_67 rfl ?_
            refine J_icmp_ne 78 71 dX9_tell_68 rfl rfl (fun c71 => ?_) (fun c71 => ?_)
            · refine J_iconst 79 dX9_tell_78 rfl ?_
              refine J_iload_n (i := 3) 80 dX9_tell_79 rfl rfl rfl ?_
              refine J_imul 81 dX9_tell_80 rfl ?_
              refine J_bipush 83 dX9_tell_81 rfl (by decide) ?_
              refine J_iadd 84 dX9_tell_83 rfl ?_
              subst hQ0
              refine J_iret dX9_tell_84 rfl ?_
              first
                | (exfalso; omega)
                | exact ⟨if_pos (by omega), if_pos (by omega)⟩
                | exact ⟨by (rw [if_neg (by omega), if_pos (by omega)]; first | done | rfl | omega), by (rw [if_neg (by omega), if_pos (by omega), jup_jup, jup_jup, jup_jup]; first | done | rfl)⟩
                | exact ⟨by (rw [if_neg (by omega), if_neg (by omega), if_pos (by omega)]; first | done | rfl | omega), by (rw [if_neg (by omega), if_neg (by omega), if_pos (by omega), jup_jup]; first | done | rfl)⟩
                | exact ⟨by (rw [if_neg (by omega), if_neg (by omega), if_neg (by omega)]; first | done | rfl | omega), by (rw [if_neg (by omega), if_neg (by omega), if_neg (by omega)]; first | done | rfl)⟩
            · refine J_iload_n (i := 3) 72 dX9_tell_71 rfl rfl rfl ?_
              refine J_bipush 74 dX9_tell_72 rfl (by decide) ?_
              refine J_iadd 75 dX9_tell_74 rfl ?_
              refine J_goto 84 dX9_tell_75 rfl ?_
              subst hQ0
              refine J_iret dX9_tell_84 rfl ?_
              first
                | (exfalso; omega)
                | exact ⟨if_pos (by omega), if_pos (by omega)⟩
                | exact ⟨by (rw [if_neg (by omega), if_pos (by omega)]; first | done | rfl | omega), by (rw [if_neg (by omega), if_pos (by omega), jup_jup, jup_jup, jup_jup]; first | done | rfl)⟩
                | exact ⟨by (rw [if_neg (by omega), if_neg (by omega), if_pos (by omega)]; first | done | rfl | omega), by (rw [if_neg (by omega), if_neg (by omega), if_pos (by omega), jup_jup]; first | done | rfl)⟩
                | exact ⟨by (rw [if_neg (by omega), if_neg (by omega), if_neg (by omega)]; first | done | rfl | omega), by (rw [if_neg (by omega), if_neg (by omega), if_neg (by omega)]; first | done | rfl)⟩
          · refine J_iload_n (i := 3) 63 dX9_tell_62 rfl rfl rfl ?_
            refine J_goto 84 dX9_tell_63 rfl ?_
            subst hQ0
            refine J_iret dX9_tell_84 rfl ?_
            first
              | (exfalso; omega)
              | exact ⟨if_pos (by omega), if_pos (by omega)⟩
              | exact ⟨by (rw [if_neg (by omega), if_pos (by omega)]; first | done | rfl | omega), by (rw [if_neg (by omega), if_pos (by omega), jup_jup, jup_jup, jup_jup]; first | done | rfl)⟩
              | exact ⟨by (rw [if_neg (by omega), if_neg (by omega), if_pos (by omega)]; first | done | rfl | omega), by (rw [if_neg (by omega), if_neg (by omega), if_pos (by omega), jup_jup]; first | done | rfl)⟩
              | exact ⟨by (rw [if_neg (by omega), if_neg (by omega), if_neg (by omega)]; first | done | rfl | omega), by (rw [if_neg (by omega), if_neg (by omega), if_neg (by omega)]; first | done | rfl)⟩
        · refine J_aload_n (i := 0) 47 dX9_tell_46 rfl rfl rfl ?_
          refine J_iconst 48 dX9_tell_47 rfl ?_
          refine J_callVv 51 dX9_tell_48 rfl kX9_315 mX9_traced rfl rfl rfl (c_X9_traced) (by first | decide | omega) rfl rfl (Nat.le_of_ble_eq_true rfl) (fun s74 h72 => ?_)
          obtain rfl := h72
          refine J_aload_n (i := 0) 52 dX9_tell_51 rfl rfl rfl ?_
          refine J_getR 55 dX9_tell_52 rfl fX9_19 rfl rfl ?_
          refine J_iload_n (i := 1) 56 dX9_tell_55 rfl rfl rfl ?_
          refine J_iald (N := 6) (lo := 0) (hi := 9) 57 dX9_tell_56 rfl rfl rfl rfl (fun b75 b76 => ?_)
          try simp +decide only [jup, ↓reduceIte] at b75 b76 ⊢
          refine J_istore_n (i := 3) 58 dX9_tell_57 rfl rfl (by decide) ?_
          refine J_iload_n (i := 2) 59 dX9_tell_58 rfl rfl rfl ?_
          refine J_if_ne 66 62 dX9_tell_59 rfl rfl (fun c77 => ?_) (fun c77 => ?_)
          · refine J_iload_n (i := 2) 67 dX9_tell_66 rfl rfl rfl ?_
            refine J_iconst 68 dX9_tell_67 rfl ?_
            refine J_icmp_ne 78 71 dX9_tell_68 rfl rfl (fun c78 => ?_) (fun c78 => ?_)
            · refine J_iconst 79 dX9_tell_78 rfl ?_
              refine J_iload_n (i := 3) 80 dX9_tell_79 rfl rfl rfl ?_
              refine J_imul 81 dX9_tell_80 rfl ?_
              refine J_bipush 83 dX9_tell_81 rfl (by decide) ?_
              refine J_iadd 84 dX9_tell_83 rfl ?_
              subst hQ0
              refine J_iret dX9_tell_84 rfl ?_
              first
                | (exfalso; omega)
                | exact ⟨if_pos (by omega), if_pos (by omega)⟩
                | exact ⟨by (rw [if_neg (by omega), if_pos (by omega)]; first | done | rfl | omega), by (rw [if_neg (by omega), if_pos (by omega), jup_jup, jup_jup, jup_jup]; first | done | rfl)⟩
                | exact ⟨by (rw [if_neg (by omega), if_neg (by omega), if_pos (by omega)]; first | done | rfl | omega), by (rw [if_neg (by omega), if_neg (by omega), if_pos (by omega), jup_jup]; first | done | rfl)⟩
                | exact ⟨by (rw [if_neg (by omega), if_neg (by omega), if_neg (by omega)]; first | done | rfl | omega), by (rw [if_neg (by omega), if_neg (by omega), if_neg (by omega)]; first | done | rfl)⟩
            · refine J_iload_n (i := 3) 72 dX9_tell_71 rfl rfl rfl ?_
              refine J_bipush 74 dX9_tell_72 rfl (by decide) ?_
              refine J_iadd 75 dX9_tell_74 rfl ?_
              refine J_goto 84 dX9_tell_75 rfl ?_
              subst hQ0
              refine J_iret dX9_tell_84 rfl ?_
              first
                | (exfalso; omega)
                | exact ⟨if_pos (by omega), if_pos (by omega)⟩
                | exact ⟨by (rw [if_neg (by omega), if_pos (by omega)]; first | done | rfl | omega), by (rw [if_neg (by omega), if_pos (by omega), jup_jup, jup_jup, jup_jup]; first | done | rfl)⟩
                | exact ⟨by (rw [if_neg (by omega), if_neg (by omega), if_pos (by omega)]; first | done | rfl | omega), by (rw [if_neg (by omega), if_neg (by omega), if_pos (by omega), jup_jup]; first | done | rfl)⟩
                | exact ⟨by (rw [if_neg (by omega), if_neg (by omega), if_neg (by omega)]; first | done | rfl | omega), by (rw [if_neg (by omega), if_neg (by omega), if_neg (by omega)]; first | done | rfl)⟩
          · refine J_iload_n (i := 3) 63 dX9_tell_62 rfl rfl rfl ?_
            refine J_goto 84 dX9_tell_63 rfl ?_
            subst hQ0
            refine J_iret dX9_tell_84 rfl ?_
            first
              | (exfalso; omega)
              | exact ⟨if_pos (by omega), if_pos (by omega)⟩
              | exact ⟨by (rw [if_neg (by omega), if_pos (by omega)]; first | done | rfl | omega), by (rw [if_neg (by omega), if_pos (by omega), jup_jup, jup_jup, jup_jup]; first | done | rfl)⟩
              | exact ⟨by (rw [if_neg (by omega), if_neg (by omega), if_pos (by omega)]; first | done | rfl | omega), by (rw [if_neg (by omega), if_neg (by omega), if_pos (by omega), jup_jup]; first | done | rfl)⟩
              | exact ⟨by (rw [if_neg (by omega), if_neg (by omega), if_neg (by omega)]; first | done | rfl | omega), by (rw [if_neg (by omega), if_neg (by omega), if_neg (by omega)]; first | done | rfl)⟩
  · refine J_iconst 9 dX9_tell_8 rfl ?_
    subst hQ0
    refine J_iret dX9_tell_9 rfl ?_
    first
      | (exfalso; omega)
      | exact ⟨if_pos (by omega), if_pos (by omega)⟩
      | exact ⟨by (rw [if_neg (by omega), if_pos (by omega)]; first | done | rfl | omega), by (rw [if_neg (by omega), if_pos (by omega), jup_jup, jup_jup, jup_jup]; first | done | rfl)⟩
      | exact ⟨by (rw [if_neg (by omega), if_neg (by omega), if_pos (by omega)]; first | done | rfl | omega), by (rw [if_neg (by omega), if_neg (by omega), if_pos (by omega), jup_jup]; first | done | rfl)⟩
      | exact ⟨by (rw [if_neg (by omega), if_neg (by omega), if_neg (by omega)]; first | done | rfl | omega), by (rw [if_neg (by omega), if_neg (by omega), if_neg (by omega)]; first | done | rfl)⟩
theorem c_X9_greet (hc : inR c) : Ct P 3 yX9_greet cX9_greet 2 (some .int) [vr P 36, vi c] σ (rI (if ¬ (0 ≤ c ∧ c < σ 36 2) then -1 else if σ 38 c = 2 then 60 else σ 39 c) (if ¬ (0 ≤ c ∧ c < σ 36 2) then σ else if σ 38 c = 2 then jup σ 36 40 (trc (σ 36 40) 5) else jup σ 36 40 (trc (σ 36 40) 4))) := by
  refine Ct.bd (fun hB => ?_)
  have hn : 0 ≤ σ 36 2 ∧ σ 36 2 ≤ 6 := hB 36 2
  refine Ct.of _ rfl rfl rfl (Nat.le_of_ble_eq_true rfl) (fun hB => ?_)
  refine J.guard (fun Q0 hQ0 => ?_)
  refine J_aload_n (i := 0) 1 dX9_greet_0 rfl rfl rfl ?_
  refine J_iload_n (i := 1) 2 dX9_greet_1 rfl rfl rfl ?_
  refine J_callVi 5 dX9_greet_2 rfl kX9_180 mX9_noComer rfl rfl rfl (c_X9_noComer) (by first | decide | omega) rfl rfl (Nat.le_of_ble_eq_true rfl) (fun z2 s3 h1 => ?_)
  obtain ⟨rfl, rfl⟩ := h1
  refine J_bif_eq 10 8 dX9_greet_5 rfl rfl (fun c4 => ?_) (fun c4 => ?_)
  · refine J_aload_n (i := 0) 11 dX9_greet_10 rfl rfl rfl ?_
    refine J_aload_n (i := 0) 12 dX9_greet_11 rfl rfl rfl ?_
    refine J_getR 15 dX9_greet_12 rfl fX9_13 rfl rfl ?_
    refine J_iload_n (i := 1) 16 dX9_greet_15 rfl rfl rfl ?_
    refine J_iald (N := 6) (lo := 0) (hi := 2) 17 dX9_greet_16 rfl rfl rfl rfl (fun b5 b6 => ?_)
    refine J_iconst 18 dX9_greet_17 rfl ?_
    refine J_icmp_ne 25 21 dX9_greet_18 rfl rfl (fun c7 => ?_) (fun c7 => ?_)
    · refine J_iconst 26 dX9_greet_25 rfl ?_
      refine J_callVv 29 dX9_greet_26 rfl kX9_315 mX9_traced rfl rfl rfl (c_X9_traced) (by first | decide | omega) rfl rfl (Nat.le_of_ble_eq_true rfl) (fun s10 h8 => ?_)
      obtain rfl := h8
      refine J_aload_n (i := 0) 30 dX9_greet_29 rfl rfl rfl ?_
      refine J_getR 33 dX9_greet_30 rfl fX9_13 rfl rfl ?_
      refine J_iload_n (i := 1) 34 dX9_greet_33 rfl rfl rfl ?_
      refine J_iald (N := 6) (lo := 0) (hi := 2) 35 dX9_greet_34 rfl rfl rfl rfl (fun b11 b12 => ?_)
      try simp +decide only [jup, ↓reduceIte] at b11 b12 ⊢
      refine J_iconst 36 dX9_greet_35 rfl ?_
      refine J_icmp_ne 44 39 dX9_greet_36 rfl rfl (fun c13 => ?_) (fun c13 => ?_)
      · refine J_aload_n (i := 0) 45 dX9_greet_44 rfl rfl rfl ?_
        refine J_getR 48 dX9_greet_45 rfl fX9_16 rfl rfl ?_
        refine J_iload_n (i := 1) 49 dX9_greet_48 rfl rfl rfl ?_
        refine J_iald (N := 6) (lo := 0) (hi := 9) 50 dX9_greet_49 rfl rfl rfl rfl (fun b14 b15 => ?_)
        try simp +decide only [jup, ↓reduceIte] at b14 b15 ⊢
        subst hQ0
        refine J_iret dX9_greet_50 rfl ?_
        first
          | (exfalso; omega)
          | exact ⟨by (first | rfl | (rw [if_pos (by omega)]; first | done | rfl) | (rw [if_neg (by omega)]; first | done | rfl) | (rw [if_neg (by omega), if_pos (by omega)]; first | done | rfl) | (rw [if_neg (by omega), if_neg (by omega)]; first | done | rfl) | (rw [if_neg (by omega), if_neg (by omega), if_pos (by omega)]; first | done | rfl) | (rw [if_neg (by omega), if_neg (by omega), if_neg (by omega)]; first | done | rfl) | (rw [if_neg (by omega), if_neg (by omega), if_neg (by omega), if_pos (by omega)]; first | done | rfl) | (rw [if_neg (by omega), if_neg (by omega), if_neg (by omega), if_neg (by omega)]; first | done | rfl) | (rw [if_neg (by omega), if_neg (by omega), if_neg (by omega), if_neg (by omega), if_pos (by omega)]; first | done | rfl) | (rw [if_neg (by omega), if_neg (by omega), if_neg (by omega), if_neg (by omega), if_neg (by omega)]; first | done | rfl)), by (first | rfl | (rw [if_pos (by omega)]; first | done | rfl) | (rw [if_neg (by omega)]; first | done | rfl) | (rw [if_neg (by omega), if_pos (by omega)]; first | done | rfl) | (rw [if_neg (by omega), if_neg (by omega)]; first | done | rfl) | (rw [if_neg (by omega), if_neg (by omega), if_pos (by omega)]; first | done | rfl) | (rw [if_neg (by omega), if_neg (by omega), if_neg (by omega)]; first | done | rfl) | (rw [if_neg (by omega), if_neg (by omega), if_neg (by omega), if_pos (by omega)]; first | done | rfl) | (rw [if_neg (by omega), if_neg (by omega), if_neg (by omega), if_neg (by omega)]; first | done | rfl) | (rw [if_neg (by omega), if_neg (by omega), if_neg (by omega), if_neg (by omega), if_pos (by omega)]; first | done | rfl) | (rw [if_neg (by omega), if_neg (by omega), if_neg (by omega), if_neg (by omega), if_neg (by omega)]; first | done | rfl))⟩
      · refine J_bipush 41 dX9_greet_39 rfl (by decide) ?_
        refine J_goto 50 dX9_greet_41 rfl ?_
        subst hQ0
        refine J_iret dX9_greet_50 rfl ?_
        first
          | (exfalso; omega)
          | exact ⟨by (first | rfl | (rw [if_pos (by omega)]; first | done | rfl) | (rw [if_neg (by omega)]; first | done | rfl) | (rw [if_neg (by omega), if_pos (by omega)]; first | done | rfl) | (rw [if_neg (by omega), if_neg (by omega)]; first | done | rfl) | (rw [if_neg (by omega), if_neg (by omega), if_pos (by omega)]; first | done | rfl) | (rw [if_neg (by omega), if_neg (by omega), if_neg (by omega)]; first | done | rfl) | (rw [if_neg (by omega), if_neg (by omega), if_neg (by omega), if_pos (by omega)]; first | done | rfl) | (rw [if_neg (by omega), if_neg (by omega), if_neg (by omega), if_neg (by omega)]; first | done | rfl) | (rw [if_neg (by omega), if_neg (by omega), if_neg (by omega), if_neg (by omega), if_pos (by omega)]; first | done | rfl) | (rw [if_neg (by omega), if_neg (by omega), if_neg (by omega), if_neg (by omega), if_neg (by omega)]; first | done | rfl)), by (first | rfl | (rw [if_pos (by omega)]; first | done | rfl) | (rw [if_neg (by omega)]; first | done | rfl) | (rw [if_neg (by omega), if_pos (by omega)]; first | done | rfl) | (rw [if_neg (by omega), if_neg (by omega)]; first | done | rfl) | (rw [if_neg (by omega), if_neg (by omega), if_pos (by omega)]; first | done | rfl) | (rw [if_neg (by omega), if_neg (by omega), if_neg (by omega)]; first | done | rfl) | (rw [if_neg (by omega), if_neg (by omega), if_neg (by omega), if_pos (by omega)]; first | done | rfl) | (rw [if_neg (by omega), if_neg (by omega), if_neg (by omega), if_neg (by omega)]; first | done | rfl) | (rw [if_neg (by omega), if_neg (by omega), if_neg (by omega), if_neg (by omega), if_pos (by omega)]; first | done | rfl) | (rw [if_neg (by omega), if_neg (by omega), if_neg (by omega), if_neg (by omega), if_neg (by omega)]; first | done | rfl))⟩
    · refine J_iconst 22 dX9_greet_21 rfl ?_
      refine J_goto 26 dX9_greet_22 rfl ?_
      refine J_callVv 29 dX9_greet_26 rfl kX9_315 mX9_traced rfl rfl rfl (c_X9_traced) (by first | decide | omega) rfl rfl (Nat.le_of_ble_eq_true rfl) (fun s18 h16 => ?_)
      obtain rfl := h16
      refine J_aload_n (i := 0) 30 dX9_greet_29 rfl rfl rfl ?_
      refine J_getR 33 dX9_greet_30 rfl fX9_13 rfl rfl ?_
      refine J_iload_n (i := 1) 34 dX9_greet_33 rfl rfl rfl ?_
      refine J_iald (N := 6) (lo := 0) (hi := 2) 35 dX9_greet_34 rfl rfl rfl rfl (fun b19 b20 => ?_)
      try simp +decide only [jup, ↓reduceIte] at b19 b20 ⊢
      refine J_iconst 36 dX9_greet_35 rfl ?_
      refine J_icmp_ne 44 39 dX9_greet_36 rfl rfl (fun c21 => ?_) (fun c21 => ?_)
      · refine J_aload_n (i := 0) 45 dX9_greet_44 rfl rfl rfl ?_
        refine J_getR 48 dX9_greet_45 rfl fX9_16 rfl rfl ?_
        refine J_iload_n (i := 1) 49 dX9_greet_48 rfl rfl rfl ?_
        refine J_iald (N := 6) (lo := 0) (hi := 9) 50 dX9_greet_49 rfl rfl rfl rfl (fun b22 b23 => ?_)
        try simp +decide only [jup, ↓reduceIte] at b22 b23 ⊢
        subst hQ0
        refine J_iret dX9_greet_50 rfl ?_
        first
          | (exfalso; omega)
          | exact ⟨by (first | rfl | (rw [if_pos (by omega)]; first | done | rfl) | (rw [if_neg (by omega)]; first | done | rfl) | (rw [if_neg (by omega), if_pos (by omega)]; first | done | rfl) | (rw [if_neg (by omega), if_neg (by omega)]; first | done | rfl) | (rw [if_neg (by omega), if_neg (by omega), if_pos (by omega)]; first | done | rfl) | (rw [if_neg (by omega), if_neg (by omega), if_neg (by omega)]; first | done | rfl) | (rw [if_neg (by omega), if_neg (by omega), if_neg (by omega), if_pos (by omega)]; first | done | rfl) | (rw [if_neg (by omega), if_neg (by omega), if_neg (by omega), if_neg (by omega)]; first | done | rfl) | (rw [if_neg (by omega), if_neg (by omega), if_neg (by omega), if_neg (by omega), if_pos (by omega)]; first | done | rfl) | (rw [if_neg (by omega), if_neg (by omega), if_neg (by omega), if_neg (by omega), if_neg (by omega)]; first | done | rfl)), by (first | rfl | (rw [if_pos (by omega)]; first | done | rfl) | (rw [if_neg (by omega)]; first | done | rfl) | (rw [if_neg (by omega), if_pos (by omega)]; first | done | rfl) | (rw [if_neg (by omega), if_neg (by omega)]; first | done | rfl) | (rw [if_neg (by omega), if_neg (by omega), if_pos (by omega)]; first | done | rfl) | (rw [if_neg (by omega), if_neg (by omega), if_neg (by omega)]; first | done | rfl) | (rw [if_neg (by omega), if_neg (by omega), if_neg (by omega), if_pos (by omega)]; first | done | rfl) | (rw [if_neg (by omega), if_neg (by omega), if_neg (by omega), if_neg (by omega)]; first | done | rfl) | (rw [if_neg (by omega), if_neg (by omega), if_neg (by omega), if_neg (by omega), if_pos (by omega)]; first | done | rfl) | (rw [if_neg (by omega), if_neg (by omega), if_neg (by omega), if_neg (by omega), if_neg (by omega)]; first | done | rfl))⟩
      · refine J_bipush 41 dX9_greet_39 rfl (by decide) ?_
        refine J_goto 50 dX9_greet_41 rfl ?_
        subst hQ0
        refine J_iret dX9_greet_50 rfl ?_
        first
          | (exfalso; omega)
          | exact ⟨by (first | rfl | (rw [if_pos (by omega)]; first | done | rfl) | (rw [if_neg (by omega)]; first | done | rfl) | (rw [if_neg (by omega), if_pos (by omega)]; first | done | rfl) | (rw [if_neg (by omega), if_neg (by omega)]; first | done | rfl) | (rw [if_neg (by omega), if_neg (by omega), if_pos (by omega)]; first | done | rfl) | (rw [if_neg (by omega), if_neg (by omega), if_neg (by omega)]; first | done | rfl) | (rw [if_neg (by omega), if_neg (by omega), if_neg (by omega), if_pos (by omega)]; first | done | rfl) | (rw [if_neg (by omega), if_neg (by omega), if_neg (by omega), if_neg (by omega)]; first | done | rfl) | (rw [if_neg (by omega), if_neg (by omega), if_neg (by omega), if_neg (by omega), if_pos (by omega)]; first | done | rfl) | (rw [if_neg (by omega), if_neg (by omega), if_neg (by omega), if_neg (by omega), if_neg (by omega)]; first | done | rfl)), by (first | rfl | (rw [if_pos (by omega)]; first | done | rfl) | (rw [if_neg (by omega)]; first | done | rfl) | (rw [if_neg (by omega), if_pos (by omega)]; first | done | rfl) | (rw [if_neg (by omega), if_neg (by omega)]; first | done | rfl) | (rw [if_neg (by omega), if_neg (by omega), if_pos (by omega)]; first | done | rfl) | (rw [if_neg (by omega), if_neg (by omega), if_neg (by omega)]; first | done | rfl) | (rw [if_neg (by omega), if_neg (by omega), if_neg (by omega), if_pos (by omega)]; first | done | rfl) | (rw [if_neg (by omega), if_neg (by omega), if_neg (by omega), if_neg (by omega)]; first | done | rfl) | (rw [if_neg (by omega), if_neg (by omega), if_neg (by omega), if_neg (by omega), if_pos (by omega)]; first | done | rfl) | (rw [if_neg (by omega), if_neg (by omega), if_neg (by omega), if_neg (by omega), if_neg (by omega)]; first | done | rfl))⟩
  · refine J_iconst 9 dX9_greet_8 rfl ?_
    subst hQ0
    refine J_iret dX9_greet_9 rfl ?_
    first
      | (exfalso; omega)
      | exact ⟨by (first | rfl | (rw [if_pos (by omega)]; first | done | rfl) | (rw [if_neg (by omega)]; first | done | rfl) | (rw [if_neg (by omega), if_pos (by omega)]; first | done | rfl) | (rw [if_neg (by omega), if_neg (by omega)]; first | done | rfl) | (rw [if_neg (by omega), if_neg (by omega), if_pos (by omega)]; first | done | rfl) | (rw [if_neg (by omega), if_neg (by omega), if_neg (by omega)]; first | done | rfl) | (rw [if_neg (by omega), if_neg (by omega), if_neg (by omega), if_pos (by omega)]; first | done | rfl) | (rw [if_neg (by omega), if_neg (by omega), if_neg (by omega), if_neg (by omega)]; first | done | rfl) | (rw [if_neg (by omega), if_neg (by omega), if_neg (by omega), if_neg (by omega), if_pos (by omega)]; first | done | rfl) | (rw [if_neg (by omega), if_neg (by omega), if_neg (by omega), if_neg (by omega), if_neg (by omega)]; first | done | rfl)), by (first | rfl | (rw [if_pos (by omega)]; first | done | rfl) | (rw [if_neg (by omega)]; first | done | rfl) | (rw [if_neg (by omega), if_pos (by omega)]; first | done | rfl) | (rw [if_neg (by omega), if_neg (by omega)]; first | done | rfl) | (rw [if_neg (by omega), if_neg (by omega), if_pos (by omega)]; first | done | rfl) | (rw [if_neg (by omega), if_neg (by omega), if_neg (by omega)]; first | done | rfl) | (rw [if_neg (by omega), if_neg (by omega), if_neg (by omega), if_pos (by omega)]; first | done | rfl) | (rw [if_neg (by omega), if_neg (by omega), if_neg (by omega), if_neg (by omega)]; first | done | rfl) | (rw [if_neg (by omega), if_neg (by omega), if_neg (by omega), if_neg (by omega), if_pos (by omega)]; first | done | rfl) | (rw [if_neg (by omega), if_neg (by omega), if_neg (by omega), if_neg (by omega), if_neg (by omega)]; first | done | rfl))⟩
theorem c_X9_as (hc : inR c) (hx : inR x) : Ct P 3 yX9_as cX9_as 3 (some .int) [vr P 36, vi c, vi x] σ (rI (if ¬ (0 ≤ c ∧ c < σ 36 2) then -1 else if ¬ (0 ≤ x ∧ x ≤ 2) then -2 else if x ≤ σ 38 c then 1 else -10 - 2) (jup σ 36 0 (if ¬ (0 ≤ c ∧ c < σ 36 2) then 0 else if ¬ (0 ≤ x ∧ x ≤ 2) then 0 else if x ≤ σ 38 c then 0 else 2))) := by
  refine Ct.bd (fun hB => ?_)
  have hn : 0 ≤ σ 36 2 ∧ σ 36 2 ≤ 6 := hB 36 2
  refine Ct.of _ rfl rfl rfl (Nat.le_of_ble_eq_true rfl) (fun hB => ?_)
  refine J_aload_n (i := 0) 1 dX9_as_0 rfl rfl rfl ?_
  refine J_iload_n (i := 1) 2 dX9_as_1 rfl rfl rfl ?_
  refine J_callVi 5 dX9_as_2 rfl kX9_180 mX9_noComer rfl rfl rfl (c_X9_noComer) (by first | decide | omega) rfl rfl (Nat.le_of_ble_eq_true rfl) (fun z2 s3 h1 => ?_)
  obtain ⟨rfl, rfl⟩ := h1
  refine J_bif_eq 14 8 dX9_as_5 rfl rfl (fun c4 => ?_) (fun c4 => ?_)
  · refine J_iload_n (i := 2) 15 dX9_as_14 rfl rfl rfl ?_
    refine J_i2l 16 dX9_as_15 rfl ?_
    refine J_lconst (z := 0) 17 dX9_as_16 rfl rfl ?_
    refine J_ldc2 20 dX9_as_17 rfl cstX9_153 ?_
    refine J_callSi 23 dX9_as_20 rfl kX9_107 mX9_in (c_X9_in) (by first | decide | omega) rfl rfl (Nat.le_of_ble_eq_true rfl) (fun z6 s7 h5 => ?_)
    obtain ⟨rfl, rfl⟩ := h5
    refine J_bif_ne 33 26 dX9_as_23 rfl rfl (fun c8 => ?_) (fun c8 => ?_)
    · refine J_aload_n (i := 0) 34 dX9_as_33 rfl rfl rfl ?_
      refine J_getR 37 dX9_as_34 rfl fX9_13 rfl rfl ?_
      refine J_iload_n (i := 1) 38 dX9_as_37 rfl rfl rfl ?_
      refine J_iald (N := 6) (lo := 0) (hi := 2) 39 dX9_as_38 rfl rfl rfl rfl (fun b9 b10 => ?_)
      refine J_iload_n (i := 2) 40 dX9_as_39 rfl rfl rfl ?_
      refine J_icmp_lt 51 43 dX9_as_40 rfl rfl (fun c11 => ?_) (fun c11 => ?_)
      · refine J_aload_n (i := 0) 52 dX9_as_51 rfl rfl rfl ?_
        refine J_iconst 53 dX9_as_52 rfl ?_
        refine J_callVi 56 dX9_as_53 rfl kX9_138 mX9_failed rfl rfl rfl (c_X9_failed) (by first | decide | omega) rfl rfl (Nat.le_of_ble_eq_true rfl) (fun z13 s14 h12 => ?_)
        obtain ⟨rfl, rfl⟩ := h12
        refine J_iret dX9_as_56 rfl ?_
        refine ⟨?_, ?_⟩
        · first | rfl | (rw [if_pos (by omega)]; first | done | rfl) | (rw [if_neg (by omega)]; first | done | rfl) | (rw [if_neg (by omega), if_pos (by omega)]; first | done | rfl) | (rw [if_neg (by omega), if_neg (by omega)]; first | done | rfl) | (rw [if_neg (by omega), if_neg (by omega), if_pos (by omega)]; first | done | rfl) | (rw [if_neg (by omega), if_neg (by omega), if_neg (by omega)]; first | done | rfl) | (rw [if_neg (by omega), if_neg (by omega), if_neg (by omega), if_pos (by omega)]; first | done | rfl) | (rw [if_neg (by omega), if_neg (by omega), if_neg (by omega), if_neg (by omega)]; first | done | rfl) | (rw [if_neg (by omega), if_neg (by omega), if_neg (by omega), if_neg (by omega), if_pos (by omega)]; first | done | rfl) | (rw [if_neg (by omega), if_neg (by omega), if_neg (by omega), if_neg (by omega), if_neg (by omega)]; first | done | rfl)
        · first | rfl | (rw [if_pos (by omega)]; first | done | rfl) | (rw [if_neg (by omega)]; first | done | rfl) | (rw [if_neg (by omega), if_pos (by omega)]; first | done | rfl) | (rw [if_neg (by omega), if_neg (by omega)]; first | done | rfl) | (rw [if_neg (by omega), if_neg (by omega), if_pos (by omega)]; first | done | rfl) | (rw [if_neg (by omega), if_neg (by omega), if_neg (by omega)]; first | done | rfl) | (rw [if_neg (by omega), if_neg (by omega), if_neg (by omega), if_pos (by omega)]; first | done | rfl) | (rw [if_neg (by omega), if_neg (by omega), if_neg (by omega), if_neg (by omega)]; first | done | rfl) | (rw [if_neg (by omega), if_neg (by omega), if_neg (by omega), if_neg (by omega), if_pos (by omega)]; first | done | rfl) | (rw [if_neg (by omega), if_neg (by omega), if_neg (by omega), if_neg (by omega), if_neg (by omega)]; first | done | rfl)
      · refine J_aload_n (i := 0) 44 dX9_as_43 rfl rfl rfl ?_
        refine J_iconst 45 dX9_as_44 rfl ?_
        refine J_callVi 48 dX9_as_45 rfl kX9_150 mX9_refused rfl rfl rfl (c_X9_refused) (by first | decide | omega) rfl rfl (Nat.le_of_ble_eq_true rfl) (fun z16 s17 h15 => ?_)
        obtain ⟨rfl, rfl⟩ := h15
        refine J_goto 56 dX9_as_48 rfl ?_
        refine J_iret dX9_as_56 rfl ?_
        refine ⟨?_, ?_⟩
        · first | rfl | (rw [if_pos (by omega)]; first | done | rfl) | (rw [if_neg (by omega)]; first | done | rfl) | (rw [if_neg (by omega), if_pos (by omega)]; first | done | rfl) | (rw [if_neg (by omega), if_neg (by omega)]; first | done | rfl) | (rw [if_neg (by omega), if_neg (by omega), if_pos (by omega)]; first | done | rfl) | (rw [if_neg (by omega), if_neg (by omega), if_neg (by omega)]; first | done | rfl) | (rw [if_neg (by omega), if_neg (by omega), if_neg (by omega), if_pos (by omega)]; first | done | rfl) | (rw [if_neg (by omega), if_neg (by omega), if_neg (by omega), if_neg (by omega)]; first | done | rfl) | (rw [if_neg (by omega), if_neg (by omega), if_neg (by omega), if_neg (by omega), if_pos (by omega)]; first | done | rfl) | (rw [if_neg (by omega), if_neg (by omega), if_neg (by omega), if_neg (by omega), if_neg (by omega)]; first | done | rfl)
        · first | rfl | (rw [if_pos (by omega)]; first | done | rfl) | (rw [if_neg (by omega)]; first | done | rfl) | (rw [if_neg (by omega), if_pos (by omega)]; first | done | rfl) | (rw [if_neg (by omega), if_neg (by omega)]; first | done | rfl) | (rw [if_neg (by omega), if_neg (by omega), if_pos (by omega)]; first | done | rfl) | (rw [if_neg (by omega), if_neg (by omega), if_neg (by omega)]; first | done | rfl) | (rw [if_neg (by omega), if_neg (by omega), if_neg (by omega), if_pos (by omega)]; first | done | rfl) | (rw [if_neg (by omega), if_neg (by omega), if_neg (by omega), if_neg (by omega)]; first | done | rfl) | (rw [if_neg (by omega), if_neg (by omega), if_neg (by omega), if_neg (by omega), if_pos (by omega)]; first | done | rfl) | (rw [if_neg (by omega), if_neg (by omega), if_neg (by omega), if_neg (by omega), if_neg (by omega)]; first | done | rfl)
    · refine J_aload_n (i := 0) 27 dX9_as_26 rfl rfl rfl ?_
      refine J_bipush 29 dX9_as_27 rfl (by decide) ?_
      refine J_callVi 32 dX9_as_29 rfl kX9_150 mX9_refused rfl rfl rfl (c_X9_refused) (by first | decide | omega) rfl rfl (Nat.le_of_ble_eq_true rfl) (fun z19 s20 h18 => ?_)
      obtain ⟨rfl, rfl⟩ := h18
      refine J_iret dX9_as_32 rfl ?_
      refine ⟨?_, ?_⟩
      · first | rfl | (rw [if_pos (by omega)]; first | done | rfl) | (rw [if_neg (by omega)]; first | done | rfl) | (rw [if_neg (by omega), if_pos (by omega)]; first | done | rfl) | (rw [if_neg (by omega), if_neg (by omega)]; first | done | rfl) | (rw [if_neg (by omega), if_neg (by omega), if_pos (by omega)]; first | done | rfl) | (rw [if_neg (by omega), if_neg (by omega), if_neg (by omega)]; first | done | rfl) | (rw [if_neg (by omega), if_neg (by omega), if_neg (by omega), if_pos (by omega)]; first | done | rfl) | (rw [if_neg (by omega), if_neg (by omega), if_neg (by omega), if_neg (by omega)]; first | done | rfl) | (rw [if_neg (by omega), if_neg (by omega), if_neg (by omega), if_neg (by omega), if_pos (by omega)]; first | done | rfl) | (rw [if_neg (by omega), if_neg (by omega), if_neg (by omega), if_neg (by omega), if_neg (by omega)]; first | done | rfl)
      · first | rfl | (rw [if_pos (by omega)]; first | done | rfl) | (rw [if_neg (by omega)]; first | done | rfl) | (rw [if_neg (by omega), if_pos (by omega)]; first | done | rfl) | (rw [if_neg (by omega), if_neg (by omega)]; first | done | rfl) | (rw [if_neg (by omega), if_neg (by omega), if_pos (by omega)]; first | done | rfl) | (rw [if_neg (by omega), if_neg (by omega), if_neg (by omega)]; first | done | rfl) | (rw [if_neg (by omega), if_neg (by omega), if_neg (by omega), if_pos (by omega)]; first | done | rfl) | (rw [if_neg (by omega), if_neg (by omega), if_neg (by omega), if_neg (by omega)]; first | done | rfl) | (rw [if_neg (by omega), if_neg (by omega), if_neg (by omega), if_neg (by omega), if_pos (by omega)]; first | done | rfl) | (rw [if_neg (by omega), if_neg (by omega), if_neg (by omega), if_neg (by omega), if_neg (by omega)]; first | done | rfl)
  · refine J_aload_n (i := 0) 9 dX9_as_8 rfl rfl rfl ?_
    refine J_iconst 10 dX9_as_9 rfl ?_
    refine J_callVi 13 dX9_as_10 rfl kX9_150 mX9_refused rfl rfl rfl (c_X9_refused) (by first | decide | omega) rfl rfl (Nat.le_of_ble_eq_true rfl) (fun z22 s23 h21 => ?_)
    obtain ⟨rfl, rfl⟩ := h21
    refine J_iret dX9_as_13 rfl ?_
    refine ⟨?_, ?_⟩
    · first | rfl | (rw [if_pos (by omega)]; first | done | rfl) | (rw [if_neg (by omega)]; first | done | rfl) | (rw [if_neg (by omega), if_pos (by omega)]; first | done | rfl) | (rw [if_neg (by omega), if_neg (by omega)]; first | done | rfl) | (rw [if_neg (by omega), if_neg (by omega), if_pos (by omega)]; first | done | rfl) | (rw [if_neg (by omega), if_neg (by omega), if_neg (by omega)]; first | done | rfl) | (rw [if_neg (by omega), if_neg (by omega), if_neg (by omega), if_pos (by omega)]; first | done | rfl) | (rw [if_neg (by omega), if_neg (by omega), if_neg (by omega), if_neg (by omega)]; first | done | rfl) | (rw [if_neg (by omega), if_neg (by omega), if_neg (by omega), if_neg (by omega), if_pos (by omega)]; first | done | rfl) | (rw [if_neg (by omega), if_neg (by omega), if_neg (by omega), if_neg (by omega), if_neg (by omega)]; first | done | rfl)
    · first | rfl | (rw [if_pos (by omega)]; first | done | rfl) | (rw [if_neg (by omega)]; first | done | rfl) | (rw [if_neg (by omega), if_pos (by omega)]; first | done | rfl) | (rw [if_neg (by omega), if_neg (by omega)]; first | done | rfl) | (rw [if_neg (by omega), if_neg (by omega), if_pos (by omega)]; first | done | rfl) | (rw [if_neg (by omega), if_neg (by omega), if_neg (by omega)]; first | done | rfl) | (rw [if_neg (by omega), if_neg (by omega), if_neg (by omega), if_pos (by omega)]; first | done | rfl) | (rw [if_neg (by omega), if_neg (by omega), if_neg (by omega), if_neg (by omega)]; first | done | rfl) | (rw [if_neg (by omega), if_neg (by omega), if_neg (by omega), if_neg (by omega), if_pos (by omega)]; first | done | rfl) | (rw [if_neg (by omega), if_neg (by omega), if_neg (by omega), if_neg (by omega), if_neg (by omega)]; first | done | rfl)
theorem c_X9_trace : Ct P 1 yX9_trace cX9_trace 1 (some .int) [vr P 36] σ (rI (σ 36 40) σ) := by
  refine Ct.of _ rfl rfl rfl (Nat.le_of_ble_eq_true rfl) (fun hB => ?_)
  refine J_aload_n (i := 0) 1 dX9_trace_0 rfl rfl rfl ?_
  refine J_getI (jz := 40) (lo := (-2147483648)) (hi := 2147483647) 4 dX9_trace_1 rfl fX9_312 rfl rfl rfl rfl (fun b1 b2 => ?_)
  refine J_iret dX9_trace_4 rfl ?_
  first | exact ⟨rfl, rfl⟩ | exact rfl | exact ⟨b01_t (by omega), rfl⟩ | exact ⟨b01_f (by omega), rfl⟩ | exact ⟨by omega, rfl⟩
theorem c_X9_fault : Ct P 1 yX9_fault cX9_fault 1 (some .int) [vr P 36] σ (rI (σ 36 0) σ) := by
  refine Ct.of _ rfl rfl rfl (Nat.le_of_ble_eq_true rfl) (fun hB => ?_)
  refine J_aload_n (i := 0) 1 dX9_fault_0 rfl rfl rfl ?_
  refine J_getI (jz := 0) (lo := 0) (hi := 4) 4 dX9_fault_1 rfl fX9_96 rfl rfl rfl rfl (fun b1 b2 => ?_)
  refine J_iret dX9_fault_4 rfl ?_
  first | exact ⟨rfl, rfl⟩ | exact rfl | exact ⟨b01_t (by omega), rfl⟩ | exact ⟨b01_f (by omega), rfl⟩ | exact ⟨by omega, rfl⟩
set_option maxHeartbeats 4000000 in
theorem l_X9_many (hok : okG σ) (hx : inR x) : ∀ (k i : Nat) (d r : Int), i + k = gM (vR σ) → d = i → r = sumN (vR σ 1) i → J P 6 (RX9, cX9_many, 4, some .int) 4 [some (vr P 36), some (vi x), some (vi r), some (vi d)] [] σ (qi fun z σ' => aMany (σ 36 1) (σ 36 2) (σ 36 3) (σ 36 4) (sumN (vR σ 1) (gM (vR σ))) (σ 36 33) (popM (starvM (vR σ))) x = z ∧ G3 σ σ') := by
  intro k
  induction k with
  | zero =>
    intro i d r hi hd hr
    have e2 : gM (vR σ) = (σ 36 1).toNat := rfl
    have hrr : r = sumN (vR σ 1) (gM (vR σ)) := by rw [Nat.add_zero] at hi; rw [hr, hi]
    refine J_iload_n (i := 3) 5 dX9_many_4 rfl rfl rfl ?_
    refine J_aload_n (i := 0) 6 dX9_many_5 rfl rfl rfl ?_
    refine J_getI (jz := 1) (lo := 0) (hi := 3) 9 dX9_many_6 rfl fX9_111 rfl rfl rfl rfl (fun b1 b2 => ?_)
    refine J_icmp_ge 27 12 dX9_many_9 rfl rfl (fun c3 => ?_) (fun c3 => ?_)
    · refine J_iload_n (i := 1) 28 dX9_many_27 rfl rfl rfl ?_
      rcases (show x = 0 ∨ x = 1 ∨ x = 2 ∨ x = 3 ∨ x = 4 ∨ x = 5 ∨ x = 6 ∨ (x < 0 ∨ 6 < x) by omega) with rfl | rfl | rfl | rfl | rfl | rfl | rfl | hx2
      · refine J_tableIn 72 dX9_many_28 rfl rfl ?_
        refine J_aload_n (i := 0) 73 dX9_many_72 rfl rfl rfl ?_
        refine J_getI (jz := 1) (lo := 0) (hi := 3) 76 dX9_many_73 rfl fX9_111 rfl rfl rfl rfl (fun b4 b5 => ?_)
        refine J_iret dX9_many_76 rfl ?_
        exact ⟨rfl, fun _ _ _ _ => rfl⟩
      · refine J_tableIn 77 dX9_many_28 rfl rfl ?_
        refine J_aload_n (i := 0) 78 dX9_many_77 rfl rfl rfl ?_
        refine J_getI (jz := 2) (lo := 0) (hi := 6) 81 dX9_many_78 rfl fX9_104 rfl rfl rfl rfl (fun b6 b7 => ?_)
        refine J_iret dX9_many_81 rfl ?_
        exact ⟨rfl, fun _ _ _ _ => rfl⟩
      · refine J_tableIn 82 dX9_many_28 rfl rfl ?_
        refine J_aload_n (i := 0) 83 dX9_many_82 rfl rfl rfl ?_
        refine J_callVi 86 dX9_many_83 rfl kX9_260 mX9_manyWithout rfl rfl rfl (c_X9_manyWithout hok) (by first | decide | omega) rfl rfl (Nat.le_of_ble_eq_true rfl) (fun z9 s10 h8 => ?_)
        obtain ⟨rfl, f1⟩ := h8
        refine J_iret dX9_many_86 rfl ?_
        exact ⟨rfl, f1⟩
      · refine J_tableIn 87 dX9_many_28 rfl rfl ?_
        refine J_iload_n (i := 2) 88 dX9_many_87 rfl rfl rfl ?_
        refine J_iret dX9_many_88 rfl ?_
        exact ⟨hrr.symm, fun _ _ _ _ => rfl⟩
      · refine J_tableIn 89 dX9_many_28 rfl rfl ?_
        refine J_aload_n (i := 0) 90 dX9_many_89 rfl rfl rfl ?_
        refine J_getI (jz := 33) (lo := 0) (hi := 8) 93 dX9_many_90 rfl fX9_168 rfl rfl rfl rfl (fun b11 b12 => ?_)
        refine J_iret dX9_many_93 rfl ?_
        exact ⟨rfl, fun _ _ _ _ => rfl⟩
      · refine J_tableIn 94 dX9_many_28 rfl rfl ?_
        refine J_aload_n (i := 0) 95 dX9_many_94 rfl rfl rfl ?_
        refine J_getI (jz := 3) (lo := 0) (hi := 2) 98 dX9_many_95 rfl fX9_162 rfl rfl rfl rfl (fun b13 b14 => ?_)
        refine J_iret dX9_many_98 rfl ?_
        exact ⟨rfl, fun _ _ _ _ => rfl⟩
      · refine J_tableIn 99 dX9_many_28 rfl rfl ?_
        refine J_aload_n (i := 0) 100 dX9_many_99 rfl rfl rfl ?_
        refine J_getI (jz := 4) (lo := 0) (hi := 9) 103 dX9_many_100 rfl fX9_165 rfl rfl rfl rfl (fun b15 b16 => ?_)
        refine J_iret dX9_many_103 rfl ?_
        exact ⟨rfl, fun _ _ _ _ => rfl⟩
      · refine J_tableOut 104 dX9_many_28 rfl ?_
        refine J_bipush 106 dX9_many_104 rfl (by decide) ?_
        refine J_iret dX9_many_106 rfl ?_
        refine ⟨?_, fun _ _ _ _ => rfl⟩
        unfold aMany
        rw [if_neg (by omega), if_neg (by omega), if_neg (by omega), if_neg (by omega), if_neg (by omega), if_neg (by omega), if_neg (by omega)]
    · exfalso; omega
  | succ k ih =>
    intro i d r hi hd hr
    refine J.bd (fun hB => ?_)
    have e2 : gM (vR σ) = (σ 36 1).toNat := rfl
    have hg : 0 ≤ σ 36 1 ∧ σ 36 1 ≤ 3 := hB 36 1
    refine J_iload_n (i := 3) 5 dX9_many_4 rfl rfl rfl ?_
    refine J_aload_n (i := 0) 6 dX9_many_5 rfl rfl rfl ?_
    refine J_getI (jz := 1) (lo := 0) (hi := 3) 9 dX9_many_6 rfl fX9_111 rfl rfl rfl rfl (fun b1 b2 => ?_)
    refine J_icmp_ge 27 12 dX9_many_9 rfl rfl (fun c3 => ?_) (fun c3 => ?_)
    · exfalso; omega
    · refine J_iload_n (i := 2) 13 dX9_many_12 rfl rfl rfl ?_
      refine J_aload_n (i := 0) 14 dX9_many_13 rfl rfl rfl ?_
      refine J_getR 17 dX9_many_14 rfl fX9_7 rfl rfl ?_
      refine J_iload_n (i := 3) 18 dX9_many_17 rfl rfl rfl ?_
      refine J_iald (N := 3) (lo := 0) (hi := 9) 19 dX9_many_18 rfl rfl rfl rfl (fun b4 b5 => ?_)
      refine J_iadd 20 dX9_many_19 rfl ?_
      refine J_istore_n (i := 2) 21 dX9_many_20 rfl rfl (by decide) ?_
      refine J_iinc 24 dX9_many_21 rfl (by decide) rfl ?_
      refine J_goto 4 dX9_many_24 rfl ?_
      refine ih (i + 1) _ _ (by omega) (by omega) ?_
      rw [hr, hd]
      rfl
theorem c_X9_many (hok : okG σ) (hx : inR x) : Ct P 6 yX9_many cX9_many 4 (some .int) [vr P 36, vi x] σ (qi fun z σ' => aMany (σ 36 1) (σ 36 2) (σ 36 3) (σ 36 4) (sumN (vR σ 1) (gM (vR σ))) (σ 36 33) (popM (starvM (vR σ))) x = z ∧ G3 σ σ') := by
  refine Ct.of _ rfl rfl rfl (Nat.le_of_ble_eq_true rfl) (fun hB => ?_)
  refine J_iconst 1 dX9_many_0 rfl ?_
  refine J_istore_n (i := 2) 2 dX9_many_1 rfl rfl (by decide) ?_
  refine J_iconst 3 dX9_many_2 rfl ?_
  refine J_istore_n (i := 3) 4 dX9_many_3 rfl rfl (by decide) ?_
  exact l_X9_many hok hx _ 0 _ _ (Nat.zero_add _) rfl rfl
end

