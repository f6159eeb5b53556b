/-! ===== the reference: readings, odds, how far, the lantern ===== -/
def okRd (σ : jS) : Prop := ∀ j : Int, 0 ≤ j → j < σ 36 33 → σ 59 j < σ 36 2
theorem okRd_of {σ τ : jS} (h : okRd σ) (h1 : τ 36 33 = σ 36 33) (h2 : τ 36 2 = σ 36 2) (h3 : τ 59 = σ 59) : okRd τ := by
  intro c a b
  rw [h2, h3]
  rw [h1] at b
  exact h c a b
theorem okRd_G3 {σ τ : jS} (h : okRd σ) (hG : G3 σ τ) : okRd τ := okRd_of h (by rw [hG 36 (by omega) (by omega) (by omega)]) (by rw [hG 36 (by omega) (by omega) (by omega)]) (hG 59 (by omega) (by omega) (by omega))
section
variable {P : jP} {w o : Nat} {a b c d g x y z n s i j k l : Int} {σ τ v : jS}
set_option maxHeartbeats 4000000 in
theorem l_X9_areSo (hB0 : jBd σ) (hrd : okRd σ) (hG : givQ σ τ) : ∀ (k i : Nat) (d r : Int), i + k = (σ 36 33).toNat → d = i → r = b01 (soN (vR σ) (σ 59) (σ 60) i = true) → J P 5 (RX9, cX9_areSo, 3, some .boolean) 8 [some (vr P 36), some (vi r), some (vi d)] [] τ (qi fun z σ' => b01 (soN (vR σ) (σ 59) (σ 60) (σ 36 33).toNat = true) = z ∧ G3 σ σ') := by
  have e36 : τ 36 33 = σ 36 33 := by rw [hG.1 36 (by omega) (by omega) (by omega)]
  have h8 : 0 ≤ σ 36 33 ∧ σ 36 33 ≤ 8 := hB0 36 33
  have e59 : τ 59 = σ 59 := hG.1 59 (by omega) (by omega) (by omega)
  have e60 : τ 60 = σ 60 := hG.1 60 (by omega) (by omega) (by omega)
  intro k
  induction k with
  | zero =>
    intro i d r hi hd hr
    have hbi := b01_in (soN (vR σ) (σ 59) (σ 60) i = true)
    refine J_iload_n (i := 2) 9 dX9_areSo_8 rfl rfl rfl ?_
    refine J_aload_n (i := 0) 10 dX9_areSo_9 rfl rfl rfl ?_
    refine J_getI (jz := 33) (lo := 0) (hi := 8) 13 dX9_areSo_10 rfl fX9_168 rfl rfl rfl rfl (fun b1 b2 => ?_)
    refine J_icmp_ge 52 16 dX9_areSo_13 rfl rfl (fun c3 => ?_) (fun c3 => ?_)
    · refine J_iload_n (i := 1) 53 dX9_areSo_52 rfl rfl rfl ?_
      refine J_zret dX9_areSo_53 rfl ?_
      refine ⟨?_, hG.1⟩
      rw [Nat.add_zero] at hi
      rw [hr, hi]
    · exfalso; omega
  | succ k ih =>
    intro i d r hi hd hr
    have hbi := b01_in (soN (vR σ) (σ 59) (σ 60) i = true)
    have h59 : 0 ≤ σ 59 d ∧ σ 59 d ≤ 5 := hB0 59 d
    have hlt := hrd d (by omega) (by omega)
    have hee := (hG.2.1 (σ 59 d) (by omega) (by omega)).1
    rw [← e59] at hee
    have hst : b01 (soN (vR σ) (σ 59) (σ 60) (i + 1) = true) = if ¬ r = 0 ∧ τ 50 (τ 59 d) = τ 60 d then 1 else 0 := by
      have e1 : soN (vR σ) (σ 59) (σ 60) (i + 1) = true ↔ (soN (vR σ) (σ 59) (σ 60) i = true ∧ eatsM (vR σ) (σ 59 i) = σ 60 i) := by
        simp only [soN, Bool.and_eq_true, decide_eq_true_eq]
      have e2 : (¬ r = 0 ∧ τ 50 (τ 59 d) = τ 60 d) ↔ (soN (vR σ) (σ 59) (σ 60) i = true ∧ eatsM (vR σ) (σ 59 i) = σ 60 i) := by
        rw [hee, hr, e59, e60, hd, b01_0]
        exact and_congr Decidable.not_not Iff.rfl
      unfold b01
      by_cases q : ¬ r = 0 ∧ τ 50 (τ 59 d) = τ 60 d
      · rw [if_pos q, if_pos (e1.mpr (e2.mp q))]
      · rw [if_neg q, if_neg (fun z => q (e2.mpr (e1.mp z)))]
    refine J_iload_n (i := 2) 9 dX9_areSo_8 rfl rfl rfl ?_
    refine J_aload_n (i := 0) 10 dX9_areSo_9 rfl rfl rfl ?_
    refine J_getI (jz := 33) (lo := 0) (hi := 8) 13 dX9_areSo_10 rfl fX9_168 rfl rfl rfl rfl (fun b1 b2 => ?_)
    refine J_icmp_ge 52 16 dX9_areSo_13 rfl rfl (fun c3 => ?_) (fun c3 => ?_)
    · exfalso; omega
    · refine J_iload_n (i := 1) 17 dX9_areSo_16 rfl rfl rfl ?_
      refine J_if_eq 44 20 dX9_areSo_17 rfl rfl (fun c4 => ?_) (fun c4 => ?_)
      · refine J_iconst 45 dX9_areSo_44 rfl ?_
        refine J_istore_n (i := 1) 46 dX9_areSo_45 rfl rfl (by decide) ?_
        refine J_iinc 49 dX9_areSo_46 rfl (by decide) rfl ?_
        refine J_goto 8 dX9_areSo_49 rfl ?_
        refine ih (i + 1) _ _ (by omega) (by omega) ?_
        rw [hst]
        first | (rw [if_pos (by omega)]; done) | (rw [if_neg (by omega)]; done)
      · refine J_aload_n (i := 0) 21 dX9_areSo_20 rfl rfl rfl ?_
        refine J_getR 24 dX9_areSo_21 rfl fX9_49 rfl rfl ?_
        refine J_aload_n (i := 0) 25 dX9_areSo_24 rfl rfl rfl ?_
        refine J_getR 28 dX9_areSo_25 rfl fX9_76 rfl rfl ?_
        refine J_iload_n (i := 2) 29 dX9_areSo_28 rfl rfl rfl ?_
        refine J_iald (N := 8) (lo := 0) (hi := 5) 30 dX9_areSo_29 rfl rfl rfl rfl (fun b5 b6 => ?_)
        refine J_iald (N := 6) (lo := 0) (hi := 9) 31 dX9_areSo_30 rfl rfl rfl rfl (fun b7 b8 => ?_)
        refine J_aload_n (i := 0) 32 dX9_areSo_31 rfl rfl rfl ?_
        refine J_getR 35 dX9_areSo_32 rfl fX9_79 rfl rfl ?_
        refine J_iload_n (i := 2) 36 dX9_areSo_35 rfl rfl rfl ?_
        refine J_iald (N := 8) (lo := 0) (hi := 9) 37 dX9_areSo_36 rfl rfl rfl rfl (fun b9 b10 => ?_)
        refine J_icmp_ne 44 40 dX9_areSo_37 rfl rfl (fun c11 => ?_) (fun c11 => ?_)
        · refine J_iconst 45 dX9_areSo_44 rfl ?_
          refine J_istore_n (i := 1) 46 dX9_areSo_45 rfl rfl (by decide) ?_
          refine J_iinc 49 dX9_areSo_46 rfl (by decide) rfl ?_
          refine J_goto 8 dX9_areSo_49 rfl ?_
          refine ih (i + 1) _ _ (by omega) (by omega) ?_
          rw [hst]
          first | (rw [if_pos (by omega)]; done) | (rw [if_neg (by omega)]; done)
        · refine J_iconst 41 dX9_areSo_40 rfl ?_
          refine J_goto 45 dX9_areSo_41 rfl ?_
          refine J_istore_n (i := 1) 46 dX9_areSo_45 rfl rfl (by decide) ?_
          refine J_iinc 49 dX9_areSo_46 rfl (by decide) rfl ?_
          refine J_goto 8 dX9_areSo_49 rfl ?_
          refine ih (i + 1) _ _ (by omega) (by omega) ?_
          rw [hst]
          first | (rw [if_pos (by omega)]; done) | (rw [if_neg (by omega)]; done)
theorem c_X9_areSo (hok : okG σ) (hrd : okRd σ) : Ct P 5 yX9_areSo cX9_areSo 3 (some .boolean) [vr P 36] σ (qi fun z σ' => b01 (soN (vR σ) (σ 59) (σ 60) (σ 36 33).toNat = true) = z ∧ G3 σ σ') := by
  refine Ct.bd (fun hB => ?_)
  refine Ct.of _ rfl rfl rfl (Nat.le_of_ble_eq_true rfl) (fun hB => ?_)
  refine J_aload_n (i := 0) 1 dX9_areSo_0 rfl rfl rfl ?_
  refine J_callVv 4 dX9_areSo_1 rfl kX9_183 mX9_gives rfl rfl rfl (c_X9_gives hok) (by first | decide | omega) rfl rfl (Nat.le_of_ble_eq_true rfl) (fun s3 h1 => ?_)
  have hG := h1
  refine J_iconst 5 dX9_areSo_4 rfl ?_
  refine J_istore_n (i := 1) 6 dX9_areSo_5 rfl rfl (by decide) ?_
  refine J_iconst 7 dX9_areSo_6 rfl ?_
  refine J_istore_n (i := 2) 8 dX9_areSo_7 rfl rfl (by decide) ?_
  exact l_X9_areSo hB hrd hG _ 0 _ _ (Nat.zero_add _) rfl rfl
set_option maxHeartbeats 4000000 in
theorem l_X9_kinds (hok : okG σ) (hrd : okRd σ) (hc : 0 ≤ c ∧ c < 6) {was : Int} (hw : was = σ 38 c) (hwb : 0 ≤ was ∧ was ≤ 2) : ∀ (k i : Nat) (d r : Int) (τ : jS), i + k = 3 → d = i → r = setN (fun x => soN (jup (vR σ) 2 c x) (σ 59) (σ 60) (σ 36 33).toNat) i → HR σ τ 38 c → J P 6 (RX9, cX9_kinds, 5, some .int) 22 [some (vr P 36), some (vi c), some (vi was), some (vi r), some (vi d)] [] τ (qi fun z σ' => setN (fun x => soN (jup (vR σ) 2 c x) (σ 59) (σ 60) (σ 36 33).toNat) 3 = z ∧ G3 σ σ') := by
  intro k
  induction k with
  | zero =>
    intro i d r τ hi hd hr hF
    refine J_iload 24 dX9_kinds_22 rfl rfl ?_
    refine J_iconst 25 dX9_kinds_24 rfl ?_
    refine J_icmp_ge 60 28 dX9_kinds_25 rfl rfl (fun c1 => ?_) (fun c1 => ?_)
    · refine J_aload_n (i := 0) 61 dX9_kinds_60 rfl rfl rfl ?_
      refine J_getR 64 dX9_kinds_61 rfl fX9_13 rfl rfl ?_
      refine J_iload_n (i := 1) 65 dX9_kinds_64 rfl rfl rfl ?_
      refine J_iload_n (i := 2) 66 dX9_kinds_65 rfl rfl rfl ?_
      refine J_iast (N := 6) (lo := 0) (hi := 2) 67 dX9_kinds_66 rfl rfl rfl rfl ?_
      refine J_iload_n (i := 3) 68 dX9_kinds_67 rfl rfl rfl ?_
      refine J_iret dX9_kinds_68 rfl ?_
      refine ⟨?_, ?_⟩
      · rw [Nat.add_zero] at hi
        rw [hr, hi]
      · rw [hw]
        exact HR_end hF
    · exfalso; omega
  | succ k ih =>
    intro i d r τ hi hd hr hF
    have hG1 := hF d
    have e1 : vR (jup τ 38 c d) = jup (vR σ) 2 c d := (vR_G3 hG1).trans (vR_up σ 2 c d (by omega))
    have hok1 : okG (jup τ 38 c d) := okG_G3 (show okG (jup σ 38 c d) from okG_of hok rfl rfl rfl) hG1
    have hrd1 : okRd (jup τ 38 c d) := okRd_G3 (show okRd (jup σ 38 c d) from okRd_of hrd rfl rfl rfl) hG1
    have e33 : (jup τ 38 c d) 36 33 = σ 36 33 := by rw [hG1 36 (by omega) (by omega) (by omega)]; rfl
    have e59 : (jup τ 38 c d) 59 = σ 59 := hG1 59 (by omega) (by omega) (by omega)
    have e60 : (jup τ 38 c d) 60 = σ 60 := hG1 60 (by omega) (by omega) (by omega)
    have hp := pow_k (k := d) (by omega)
    have hsb := setN_1024 (fun x => soN (jup (vR σ) 2 c x) (σ 59) (σ 60) (σ 36 33).toNat) (n := i) (by omega)
    have hst : setN (fun x => soN (jup (vR σ) 2 c x) (σ 59) (σ 60) (σ 36 33).toNat) (i + 1) = if soN (jup (vR σ) 2 c d) (σ 59) (σ 60) (σ 36 33).toNat = true then ior r (2 ^ d.toNat) else ior r 0 := by
      rw [hr, hd, Int.toNat_natCast, ior_pow (setN_b _ i), ior_0 (by omega)]
      rfl
    refine J_iload 24 dX9_kinds_22 rfl rfl ?_
    refine J_iconst 25 dX9_kinds_24 rfl ?_
    refine J_icmp_ge 60 28 dX9_kinds_25 rfl rfl (fun c1 => ?_) (fun c1 => ?_)
    · exfalso; omega
    · refine J_aload_n (i := 0) 29 dX9_kinds_28 rfl rfl rfl ?_
      refine J_getR 32 dX9_kinds_29 rfl fX9_13 rfl rfl ?_
      refine J_iload_n (i := 1) 33 dX9_kinds_32 rfl rfl rfl ?_
      refine J_iload 35 dX9_kinds_33 rfl rfl ?_
      refine J_iast (N := 6) (lo := 0) (hi := 2) 36 dX9_kinds_35 rfl rfl rfl rfl ?_
      refine J_iload_n (i := 3) 37 dX9_kinds_36 rfl rfl rfl ?_
      refine J_aload_n (i := 0) 38 dX9_kinds_37 rfl rfl rfl ?_
      refine J_callVi 41 dX9_kinds_38 rfl kX9_295 mX9_areSo rfl rfl rfl (c_X9_areSo hok1 hrd1) (by first | decide | omega) rfl rfl (Nat.le_of_ble_eq_true rfl) (fun z3 s4 h2 => ?_)
      obtain ⟨rfl, f1⟩ := h2
      rw [e1, e33, e59, e60]
      have hF2 := HR_next hF f1
      refine J_bif_eq 51 44 dX9_kinds_41 rfl rfl (fun c5 => ?_) (fun c5 => ?_)
      · refine J_iconst 52 dX9_kinds_51 rfl ?_
        refine J_ior 53 dX9_kinds_52 rfl ?_
        refine J_istore_n (i := 3) 54 dX9_kinds_53 rfl rfl (by decide) ?_
        refine J_iinc 57 dX9_kinds_54 rfl (by decide) rfl ?_
        refine J_goto 22 dX9_kinds_57 rfl ?_
        refine ih (i + 1) _ _ _ (by omega) (by omega) ?_ hF2
        rw [hst]
        first | (rw [if_pos (by assumption)]; done) | (rw [if_neg (by assumption)]; done)
      · refine J_iconst 45 dX9_kinds_44 rfl ?_
        refine J_iload 47 dX9_kinds_45 rfl rfl ?_
        refine J_ishl1 48 dX9_kinds_47 rfl ?_
        refine J_goto 52 dX9_kinds_48 rfl ?_
        refine J_ior 53 dX9_kinds_52 rfl ?_
        refine J_istore_n (i := 3) 54 dX9_kinds_53 rfl rfl (by decide) ?_
        refine J_iinc 57 dX9_kinds_54 rfl (by decide) rfl ?_
        refine J_goto 22 dX9_kinds_57 rfl ?_
        refine ih (i + 1) _ _ _ (by omega) (by omega) ?_ hF2
        rw [hst]
        first | (rw [if_pos (by assumption)]; done) | (rw [if_neg (by assumption)]; done)
theorem c_X9_kinds (hok : okG σ) (hrd : okRd σ) (hc : inR c) : Ct P 6 yX9_kinds cX9_kinds 5 (some .int) [vr P 36, vi c] σ (qi fun z σ' => (if ¬ (0 ≤ c ∧ c < σ 36 2) then -1 else setN (fun x => soN (jup (vR σ) 2 c x) (σ 59) (σ 60) (σ 36 33).toNat) 3) = z ∧ G3 σ σ') := by
  refine Ct.bd (fun hB => ?_)
  have hn : 0 ≤ σ 36 2 ∧ σ 36 2 ≤ 6 := hB 36 2
  have hs : 0 ≤ σ 38 c ∧ σ 38 c ≤ 2 := hB 38 c
  refine Ct.of _ rfl rfl rfl (Nat.le_of_ble_eq_true rfl) (fun hB => ?_)
  refine J_aload_n (i := 0) 1 dX9_kinds_0 rfl rfl rfl ?_
  refine J_iload_n (i := 1) 2 dX9_kinds_1 rfl rfl rfl ?_
  refine J_callVi 5 dX9_kinds_2 rfl kX9_180 mX9_noComer rfl rfl rfl (c_X9_noComer) (by first | decide | omega) rfl rfl (Nat.le_of_ble_eq_true rfl) (fun z2 s3 h1 => ?_)
  obtain ⟨rfl, rfl⟩ := h1
  refine J_bif_eq 10 8 dX9_kinds_5 rfl rfl (fun c4 => ?_) (fun c4 => ?_)
  · refine J_aload_n (i := 0) 11 dX9_kinds_10 rfl rfl rfl ?_
    refine J_getR 14 dX9_kinds_11 rfl fX9_13 rfl rfl ?_
    refine J_iload_n (i := 1) 15 dX9_kinds_14 rfl rfl rfl ?_
    refine J_iald (N := 6) (lo := 0) (hi := 2) 16 dX9_kinds_15 rfl rfl rfl rfl (fun b5 b6 => ?_)
    refine J_istore_n (i := 2) 17 dX9_kinds_16 rfl rfl (by decide) ?_
    refine J_iconst 18 dX9_kinds_17 rfl ?_
    refine J_istore_n (i := 3) 19 dX9_kinds_18 rfl rfl (by decide) ?_
    refine J_iconst 20 dX9_kinds_19 rfl ?_
    refine J_istore 22 dX9_kinds_20 rfl (by decide) ?_
    rw [if_neg (by omega)]
    exact l_X9_kinds hok hrd (by omega) rfl hs 3 0 _ _ _ (Nat.zero_add _) rfl rfl (HR_0 σ 38 c)
  · refine J_iconst 9 dX9_kinds_8 rfl ?_
    refine J_iret dX9_kinds_9 rfl ?_
    exact ⟨if_pos (by omega), fun _ _ _ _ => rfl⟩
set_option maxHeartbeats 4000000 in
theorem l_X9_shows (hok : okG σ) (hrd : okRd σ) (hc : 0 ≤ c ∧ c < 6) {was : Int} (hw : was = σ 40 c) (hwb : 0 ≤ was ∧ was ≤ 9) : ∀ (k i : Nat) (d r : Int) (τ : jS), i + k = 10 → d = i → r = setN (fun x => soN (jup (vR σ) 4 c x) (σ 59) (σ 60) (σ 36 33).toNat) i → HR σ τ 40 c → J P 6 (RX9, cX9_shows, 5, some .int) 22 [some (vr P 36), some (vi c), some (vi was), some (vi r), some (vi d)] [] τ (qi fun z σ' => setN (fun x => soN (jup (vR σ) 4 c x) (σ 59) (σ 60) (σ 36 33).toNat) 10 = z ∧ G3 σ σ') := by
  intro k
  induction k with
  | zero =>
    intro i d r τ hi hd hr hF
    refine J_iload 24 dX9_shows_22 rfl rfl ?_
    refine J_bipush 26 dX9_shows_24 rfl (by decide) ?_
    refine J_icmp_gt 61 29 dX9_shows_26 rfl rfl (fun c1 => ?_) (fun c1 => ?_)
    · refine J_aload_n (i := 0) 62 dX9_shows_61 rfl rfl rfl ?_
      refine J_getR 65 dX9_shows_62 rfl fX9_19 rfl rfl ?_
      refine J_iload_n (i := 1) 66 dX9_shows_65 rfl rfl rfl ?_
      refine J_iload_n (i := 2) 67 dX9_shows_66 rfl rfl rfl ?_
      refine J_iast (N := 6) (lo := 0) (hi := 9) 68 dX9_shows_67 rfl rfl rfl rfl ?_
      refine J_iload_n (i := 3) 69 dX9_shows_68 rfl rfl rfl ?_
      refine J_iret dX9_shows_69 rfl ?_
      refine ⟨?_, ?_⟩
      · rw [Nat.add_zero] at hi
        rw [hr, hi]
      · rw [hw]
        exact HR_end hF
    · exfalso; omega
  | succ k ih =>
    intro i d r τ hi hd hr hF
    have hG1 := hF d
    have e1 : vR (jup τ 40 c d) = jup (vR σ) 4 c d := (vR_G3 hG1).trans (vR_up σ 4 c d (by omega))
    have hok1 : okG (jup τ 40 c d) := okG_G3 (show okG (jup σ 40 c d) from okG_of hok rfl rfl rfl) hG1
    have hrd1 : okRd (jup τ 40 c d) := okRd_G3 (show okRd (jup σ 40 c d) from okRd_of hrd rfl rfl rfl) hG1
    have e33 : (jup τ 40 c d) 36 33 = σ 36 33 := by rw [hG1 36 (by omega) (by omega) (by omega)]; rfl
    have e59 : (jup τ 40 c d) 59 = σ 59 := hG1 59 (by omega) (by omega) (by omega)
    have e60 : (jup τ 40 c d) 60 = σ 60 := hG1 60 (by omega) (by omega) (by omega)
    have hp := pow_k (k := d) (by omega)
    have hsb := setN_1024 (fun x => soN (jup (vR σ) 4 c x) (σ 59) (σ 60) (σ 36 33).toNat) (n := i) (by omega)
    have hst : setN (fun x => soN (jup (vR σ) 4 c x) (σ 59) (σ 60) (σ 36 33).toNat) (i + 1) = if soN (jup (vR σ) 4 c d) (σ 59) (σ 60) (σ 36 33).toNat = true then ior r (2 ^ d.toNat) else ior r 0 := by
      rw [hr, hd, Int.toNat_natCast, ior_pow (setN_b _ i), ior_0 (by omega)]
      rfl
    refine J_iload 24 dX9_shows_22 rfl rfl ?_
    refine J_bipush 26 dX9_shows_24 rfl (by decide) ?_
    refine J_icmp_gt 61 29 dX9_shows_26 rfl rfl (fun c1 => ?_) (fun c1 => ?_)
    · exfalso; omega
    · refine J_aload_n (i := 0) 30 dX9_shows_29 rfl rfl rfl ?_
      refine J_getR 33 dX9_shows_30 rfl fX9_19 rfl rfl ?_
      refine J_iload_n (i := 1) 34 dX9_shows_33 rfl rfl rfl ?_
      refine J_iload 36 dX9_shows_34 rfl rfl ?_
      refine J_iast (N := 6) (lo := 0) (hi := 9) 37 dX9_shows_36 rfl rfl rfl rfl ?_
      refine J_iload_n (i := 3) 38 dX9_shows_37 rfl rfl rfl ?_
      refine J_aload_n (i := 0) 39 dX9_shows_38 rfl rfl rfl ?_
      refine J_callVi 42 dX9_shows_39 rfl kX9_295 mX9_areSo rfl rfl rfl (c_X9_areSo hok1 hrd1) (by first | decide | omega) rfl rfl (Nat.le_of_ble_eq_true rfl) (fun z3 s4 h2 => ?_)
      obtain ⟨rfl, f1⟩ := h2
      rw [e1, e33, e59, e60]
      have hF2 := HR_next hF f1
      refine J_bif_eq 52 45 dX9_shows_42 rfl rfl (fun c5 => ?_) (fun c5 => ?_)
      · refine J_iconst 53 dX9_shows_52 rfl ?_
        refine J_ior 54 dX9_shows_53 rfl ?_
        refine J_istore_n (i := 3) 55 dX9_shows_54 rfl rfl (by decide) ?_
        refine J_iinc 58 dX9_shows_55 rfl (by decide) rfl ?_
        refine J_goto 22 dX9_shows_58 rfl ?_
        refine ih (i + 1) _ _ _ (by omega) (by omega) ?_ hF2
        rw [hst]
        first | (rw [if_pos (by assumption)]; done) | (rw [if_neg (by assumption)]; done)
      · refine J_iconst 46 dX9_shows_45 rfl ?_
        refine J_iload 48 dX9_shows_46 rfl rfl ?_
        refine J_ishl1 49 dX9_shows_48 rfl ?_
        refine J_goto 53 dX9_shows_49 rfl ?_
        refine J_ior 54 dX9_shows_53 rfl ?_
        refine J_istore_n (i := 3) 55 dX9_shows_54 rfl rfl (by decide) ?_
        refine J_iinc 58 dX9_shows_55 rfl (by decide) rfl ?_
        refine J_goto 22 dX9_shows_58 rfl ?_
        refine ih (i + 1) _ _ _ (by omega) (by omega) ?_ hF2
        rw [hst]
        first | (rw [if_pos (by assumption)]; done) | (rw [if_neg (by assumption)]; done)
theorem c_X9_shows (hok : okG σ) (hrd : okRd σ) (hc : inR c) : Ct P 6 yX9_shows cX9_shows 5 (some .int) [vr P 36, vi c] σ (qi fun z σ' => (if ¬ (0 ≤ c ∧ c < σ 36 2) then -1 else setN (fun x => soN (jup (vR σ) 4 c x) (σ 59) (σ 60) (σ 36 33).toNat) 10) = z ∧ G3 σ σ') := by
  refine Ct.bd (fun hB => ?_)
  have hn : 0 ≤ σ 36 2 ∧ σ 36 2 ≤ 6 := hB 36 2
  have hs : 0 ≤ σ 40 c ∧ σ 40 c ≤ 9 := hB 40 c
  refine Ct.of _ rfl rfl rfl (Nat.le_of_ble_eq_true rfl) (fun hB => ?_)
  refine J_aload_n (i := 0) 1 dX9_shows_0 rfl rfl rfl ?_
  refine J_iload_n (i := 1) 2 dX9_shows_1 rfl rfl rfl ?_
  refine J_callVi 5 dX9_shows_2 rfl kX9_180 mX9_noComer rfl rfl rfl (c_X9_noComer) (by first | decide | omega) rfl rfl (Nat.le_of_ble_eq_true rfl) (fun z2 s3 h1 => ?_)
  obtain ⟨rfl, rfl⟩ := h1
  refine J_bif_eq 10 8 dX9_shows_5 rfl rfl (fun c4 => ?_) (fun c4 => ?_)
  · refine J_aload_n (i := 0) 11 dX9_shows_10 rfl rfl rfl ?_
    refine J_getR 14 dX9_shows_11 rfl fX9_19 rfl rfl ?_
    refine J_iload_n (i := 1) 15 dX9_shows_14 rfl rfl rfl ?_
    refine J_iald (N := 6) (lo := 0) (hi := 9) 16 dX9_shows_15 rfl rfl rfl rfl (fun b5 b6 => ?_)
    refine J_istore_n (i := 2) 17 dX9_shows_16 rfl rfl (by decide) ?_
    refine J_iconst 18 dX9_shows_17 rfl ?_
    refine J_istore_n (i := 3) 19 dX9_shows_18 rfl rfl (by decide) ?_
    refine J_iconst 20 dX9_shows_19 rfl ?_
    refine J_istore 22 dX9_shows_20 rfl (by decide) ?_
    rw [if_neg (by omega)]
    exact l_X9_shows hok hrd (by omega) rfl hs 10 0 _ _ _ (Nat.zero_add _) rfl rfl (HR_0 σ 40 c)
  · refine J_iconst 9 dX9_shows_8 rfl ?_
    refine J_iret dX9_shows_9 rfl ?_
    exact ⟨if_pos (by omega), fun _ _ _ _ => rfl⟩
set_option maxHeartbeats 4000000 in
theorem l_X9_chalks (hok : okG σ) (hrd : okRd σ) {was : Int} (hw : was = σ 36 4) (hwb : 0 ≤ was ∧ was ≤ 9) : ∀ (k i : Nat) (d r : Int) (τ : jS), i + k = 10 → d = i → r = setN (fun x => soN (jup (vR σ) 0 3 x) (σ 59) (σ 60) (σ 36 33).toNat) i → HR σ τ 36 4 → J P 6 (RX9, cX9_chalks, 4, some .int) 19 [some (vr P 36), some (vi was), some (vi r), some (vi d)] [] τ (qi fun z σ' => setN (fun x => soN (jup (vR σ) 0 3 x) (σ 59) (σ 60) (σ 36 33).toNat) 10 = z ∧ G3 σ σ') := by
  intro k
  induction k with
  | zero =>
    intro i d r τ hi hd hr hF
    refine J_iload_n (i := 3) 20 dX9_chalks_19 rfl rfl rfl ?_
    refine J_bipush 22 dX9_chalks_20 rfl (by decide) ?_
    refine J_icmp_gt 53 25 dX9_chalks_22 rfl rfl (fun c1 => ?_) (fun c1 => ?_)
    · refine J_aload_n (i := 0) 54 dX9_chalks_53 rfl rfl rfl ?_
      refine J_iload_n (i := 1) 55 dX9_chalks_54 rfl rfl rfl ?_
      refine J_putI (jz := 4) (lo := 0) (hi := 9) 58 dX9_chalks_55 rfl gX9_165 rfl rfl rfl rfl ?_
      refine J_iload_n (i := 2) 59 dX9_chalks_58 rfl rfl rfl ?_
      refine J_iret dX9_chalks_59 rfl ?_
      refine ⟨?_, ?_⟩
      · rw [Nat.add_zero] at hi
        rw [hr, hi]
      · rw [hw]
        exact HR_end hF
    · exfalso; omega
  | succ k ih =>
    intro i d r τ hi hd hr hF
    have hG1 := hF d
    have e1 : vR (jup τ 36 4 d) = jup (vR σ) 0 3 d := (vR_G3 hG1).trans (vR_up0 σ 3 d (by omega))
    have hok1 : okG (jup τ 36 4 d) := okG_G3 (show okG (jup σ 36 4 d) from okG_of hok rfl rfl rfl) hG1
    have hrd1 : okRd (jup τ 36 4 d) := okRd_G3 (show okRd (jup σ 36 4 d) from okRd_of hrd rfl rfl rfl) hG1
    have e33 : (jup τ 36 4 d) 36 33 = σ 36 33 := by rw [hG1 36 (by omega) (by omega) (by omega)]; rfl
    have e59 : (jup τ 36 4 d) 59 = σ 59 := hG1 59 (by omega) (by omega) (by omega)
    have e60 : (jup τ 36 4 d) 60 = σ 60 := hG1 60 (by omega) (by omega) (by omega)
    have hp := pow_k (k := d) (by omega)
    have hsb := setN_1024 (fun x => soN (jup (vR σ) 0 3 x) (σ 59) (σ 60) (σ 36 33).toNat) (n := i) (by omega)
    have hst : setN (fun x => soN (jup (vR σ) 0 3 x) (σ 59) (σ 60) (σ 36 33).toNat) (i + 1) = if soN (jup (vR σ) 0 3 d) (σ 59) (σ 60) (σ 36 33).toNat = true then ior r (2 ^ d.toNat) else ior r 0 := by
      rw [hr, hd, Int.toNat_natCast, ior_pow (setN_b _ i), ior_0 (by omega)]
      rfl
    refine J_iload_n (i := 3) 20 dX9_chalks_19 rfl rfl rfl ?_
    refine J_bipush 22 dX9_chalks_20 rfl (by decide) ?_
    refine J_icmp_gt 53 25 dX9_chalks_22 rfl rfl (fun c1 => ?_) (fun c1 => ?_)
    · exfalso; omega
    · refine J_aload_n (i := 0) 26 dX9_chalks_25 rfl rfl rfl ?_
      refine J_iload_n (i := 3) 27 dX9_chalks_26 rfl rfl rfl ?_
      refine J_putI (jz := 4) (lo := 0) (hi := 9) 30 dX9_chalks_27 rfl gX9_165 rfl rfl rfl rfl ?_
      refine J_iload_n (i := 2) 31 dX9_chalks_30 rfl rfl rfl ?_
      refine J_aload_n (i := 0) 32 dX9_chalks_31 rfl rfl rfl ?_
      refine J_callVi 35 dX9_chalks_32 rfl kX9_295 mX9_areSo rfl rfl rfl (c_X9_areSo hok1 hrd1) (by first | decide | omega) rfl rfl (Nat.le_of_ble_eq_true rfl) (fun z3 s4 h2 => ?_)
      obtain ⟨rfl, f1⟩ := h2
      rw [e1, e33, e59, e60]
      have hF2 := HR_next hF f1
      refine J_bif_eq 44 38 dX9_chalks_35 rfl rfl (fun c5 => ?_) (fun c5 => ?_)
      · refine J_iconst 45 dX9_chalks_44 rfl ?_
        refine J_ior 46 dX9_chalks_45 rfl ?_
        refine J_istore_n (i := 2) 47 dX9_chalks_46 rfl rfl (by decide) ?_
        refine J_iinc 50 dX9_chalks_47 rfl (by decide) rfl ?_
        refine J_goto 19 dX9_chalks_50 rfl ?_
        refine ih (i + 1) _ _ _ (by omega) (by omega) ?_ hF2
        rw [hst]
        first | (rw [if_pos (by assumption)]; done) | (rw [if_neg (by assumption)]; done)
      · refine J_iconst 39 dX9_chalks_38 rfl ?_
        refine J_iload_n (i := 3) 40 dX9_chalks_39 rfl rfl rfl ?_
        refine J_ishl1 41 dX9_chalks_40 rfl ?_
        refine J_goto 45 dX9_chalks_41 rfl ?_
        refine J_ior 46 dX9_chalks_45 rfl ?_
        refine J_istore_n (i := 2) 47 dX9_chalks_46 rfl rfl (by decide) ?_
        refine J_iinc 50 dX9_chalks_47 rfl (by decide) rfl ?_
        refine J_goto 19 dX9_chalks_50 rfl ?_
        refine ih (i + 1) _ _ _ (by omega) (by omega) ?_ hF2
        rw [hst]
        first | (rw [if_pos (by assumption)]; done) | (rw [if_neg (by assumption)]; done)
theorem c_X9_chalks (hok : okG σ) (hrd : okRd σ) : Ct P 6 yX9_chalks cX9_chalks 4 (some .int) [vr P 36] σ (qi fun z σ' => (if ¬ (0 < σ 36 2) then -3 else setN (fun x => soN (jup (vR σ) 0 3 x) (σ 59) (σ 60) (σ 36 33).toNat) 10) = z ∧ G3 σ σ') := by
  refine Ct.bd (fun hB => ?_)
  have hn : 0 ≤ σ 36 2 ∧ σ 36 2 ≤ 6 := hB 36 2
  have hs : 0 ≤ σ 36 4 ∧ σ 36 4 ≤ 9 := hB 36 4
  refine Ct.of _ rfl rfl rfl (Nat.le_of_ble_eq_true rfl) (fun hB => ?_)
  refine J_aload_n (i := 0) 1 dX9_chalks_0 rfl rfl rfl ?_
  refine J_getI (jz := 2) (lo := 0) (hi := 6) 4 dX9_chalks_1 rfl fX9_104 rfl rfl rfl rfl (fun b1 b2 => ?_)
  refine J_if_ne 10 7 dX9_chalks_4 rfl rfl (fun c3 => ?_) (fun c3 => ?_)
  · refine J_aload_n (i := 0) 11 dX9_chalks_10 rfl rfl rfl ?_
    refine J_getI (jz := 4) (lo := 0) (hi := 9) 14 dX9_chalks_11 rfl fX9_165 rfl rfl rfl rfl (fun b4 b5 => ?_)
    refine J_istore_n (i := 1) 15 dX9_chalks_14 rfl rfl (by decide) ?_
    refine J_iconst 16 dX9_chalks_15 rfl ?_
    refine J_istore_n (i := 2) 17 dX9_chalks_16 rfl rfl (by decide) ?_
    refine J_iconst 18 dX9_chalks_17 rfl ?_
    refine J_istore_n (i := 3) 19 dX9_chalks_18 rfl rfl (by decide) ?_
    rw [if_neg (by omega)]
    exact l_X9_chalks hok hrd rfl hs 10 0 _ _ _ (Nat.zero_add _) rfl rfl (HR_0 σ 36 4)
  · refine J_bipush 9 dX9_chalks_7 rfl (by decide) ?_
    refine J_iret dX9_chalks_9 rfl ?_
    exact ⟨if_pos (by omega), fun _ _ _ _ => rfl⟩
end

