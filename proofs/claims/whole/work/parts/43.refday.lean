/-! ===== the reference: days that are told ===== -/
theorem aDig_ge {n c x old : Int} (ho : 0 ≤ old ∧ old ≤ 9) : (-2 ≤ aDig n c x old ∧ aDig n c x old ≤ 9) ∧ (0 ≤ aDig n c x old ↔ (0 ≤ c ∧ c < n) ∧ 0 ≤ x ∧ x ≤ 9) := by
  unfold aDig
  by_cases h : 0 ≤ c ∧ c < n
  · rw [if_neg (by omega)]
    by_cases h2 : 0 ≤ x ∧ x ≤ 9
    · rw [if_neg (by omega)]; omega
    · rw [if_pos h2]; omega
  · rw [if_pos h]; omega
theorem ite_ge {p : Prop} [Decidable p] {old : Int} (ho : 0 ≤ old ∧ old ≤ 9) : (-2 ≤ (if ¬ p then -1 else old) ∧ (if ¬ p then -1 else old) ≤ 9) ∧ (0 ≤ (if ¬ p then -1 else old) ↔ p) := by
  by_cases h : p
  · rw [if_neg (fun q => q h)]; exact ⟨by omega, fun _ => h, fun _ => ho.1⟩
  · rw [if_pos h]; exact ⟨by omega, fun q => by omega, fun q => absurd q h⟩
theorem ite2_ge {p q : Prop} [Decidable p] [Decidable q] {old : Int} (ho : 0 ≤ old ∧ old ≤ 9) : (-3 ≤ (if ¬ p then -2 else if ¬ q then -3 else old) ∧ (if ¬ p then -2 else if ¬ q then -3 else old) ≤ 9) ∧ (0 ≤ (if ¬ p then -2 else if ¬ q then -3 else old) ↔ p ∧ q) := by
  by_cases h : p
  · rw [if_neg (fun q => q h)]
    by_cases h2 : q
    · rw [if_neg (fun q => q h2)]; exact ⟨by omega, fun _ => ⟨h, h2⟩, fun _ => ho.1⟩
    · rw [if_pos h2]; exact ⟨by omega, fun q => by omega, fun q => absurd q.2 h2⟩
  · rw [if_pos h]; exact ⟨by omega, fun q => by omega, fun q => absurd q.1 h⟩
def actR (σ : jS) (a x : Int) : jS := if a < 6 then jup σ 40 a x else if 11 ≤ a then jup σ 41 (a - 11) x else if 8 ≤ a then jup σ 37 (a - 8) x else if a = 6 then jup σ 36 3 x else jup σ 36 4 x
theorem actOK_iff {σ : jS} {a x : Int} (ha : 0 ≤ a ∧ a ≤ 16) : actOK (vR σ) a x = true ↔ (a < 6 ∧ a < σ 36 2) ∨ (11 ≤ a ∧ a - 11 < σ 36 2 ∧ 0 ≤ x ∧ x < σ 36 1) ∨ (8 ≤ a ∧ a < 11 ∧ a - 8 < σ 36 1) ∨ (a = 6 ∨ a = 7) := by
  have e1 : vR σ 0 1 = σ 36 2 := rfl
  have e0 : vR σ 0 0 = σ 36 1 := rfl
  unfold actOK
  rw [e0, e1]
  by_cases h1 : a < 6
  · rw [if_pos h1, decide_eq_true_iff]; omega
  · rw [if_neg h1]
    by_cases h2 : 11 ≤ a
    · rw [if_pos h2, decide_eq_true_iff]; omega
    · rw [if_neg h2]
      by_cases h3 : 8 ≤ a
      · rw [if_pos h3, decide_eq_true_iff]; omega
      · rw [if_neg h3]
        exact ⟨fun _ => by omega, fun _ => rfl⟩
theorem vR_act (σ : jS) {a x : Int} (ha : 0 ≤ a ∧ a ≤ 16) : vR (actR σ a x) = jup (vR σ) (actI a) (actJ a) x := by
  unfold actR actI actJ
  by_cases h1 : a < 6
  · rw [if_pos h1, if_pos h1, if_pos h1]; exact vR_up σ 4 a x (by omega)
  · rw [if_neg h1, if_neg h1, if_neg h1]
    by_cases h2 : 11 ≤ a
    · rw [if_pos h2, if_pos h2, if_pos h2]; exact vR_up σ 5 (a - 11) x (by omega)
    · rw [if_neg h2, if_neg h2, if_neg h2]
      by_cases h3 : 8 ≤ a
      · rw [if_pos h3, if_pos h3, if_pos h3]; exact vR_up σ 1 (a - 8) x (by omega)
      · rw [if_neg h3, if_neg h3, if_neg h3]
        by_cases h4 : a = 6
        · rw [if_pos h4, if_pos h4]; exact vR_up0 σ 2 x (by omega)
        · rw [if_neg h4, if_neg h4]; exact vR_up0 σ 3 x (by omega)
theorem BDY_act (σ : jS) {a x : Int} (ha : 0 ≤ a ∧ a ≤ 16) : BDY σ (actR σ a x) := by
  unfold actR
  repeat' split
  all_goals exact BDY_up (by omega)
theorem okG_act {σ : jS} {a x : Int} (ha : 0 ≤ a ∧ a ≤ 16) (hok : okG σ) (h : actOK (vR σ) a x = true) : okG (actR σ a x) := by
  have h2 := (actOK_iff ha).mp h
  unfold actR
  by_cases h1 : a < 6
  · rw [if_pos h1]; exact okG_of hok rfl rfl rfl
  · rw [if_neg h1]
    by_cases h2 : 11 ≤ a
    · rw [if_pos h2]
      intro c c1 c2
      have c3 : c < σ 36 2 := c2
      show jup σ 41 (a - 11) x 41 c < σ 36 1
      by_cases e : c = a - 11
      · rw [e, jup_at]; omega
      · rw [jup_ne2 e]; exact hok c c1 c3
    · rw [if_neg h2]
      by_cases h3 : 8 ≤ a
      · rw [if_pos h3]; exact okG_of hok rfl rfl rfl
      · rw [if_neg h3]
        by_cases h4 : a = 6
        · rw [if_pos h4]; exact okG_of hok rfl rfl rfl
        · rw [if_neg h4]; exact okG_of hok rfl rfl rfl
theorem mostM_9 {a x : Int} (h : 0 ≤ x ∧ x ≤ mostM a) : x ≤ 9 ∧ (a = 6 → x ≤ 2) := by
  have h2 := h.2
  unfold mostM at h2
  repeat' split at h2
  all_goals omega
section
variable {P : jP} {w o : Nat} {a b c d g x y z n s i j k l : Int} {σ τ v : jS}
theorem c_X9_isAsTold (hx : inR x := by omega) (ha : inR a := by omega) : Ct P 2 yX9_isAsTold cX9_isAsTold 3 (some .boolean) [vi x, vi a] σ (rI (b01 (0 ≤ x ∧ x ≤ mostM a)) σ) := by
  have hm : (a < 0 ∨ 17 ≤ a → mostM a = -1) ∧ (a = 6 → mostM a = 2) ∧ (11 ≤ a ∧ a < 17 → mostM a = 2) ∧ (0 ≤ a ∧ a < 11 ∧ ¬ a = 6 → mostM a = 9) := by
    unfold mostM
    refine ⟨fun h => by rw [if_pos h], fun h => by rw [if_neg (by omega), if_pos h], fun h => by rw [if_neg (by omega), if_neg (by omega), if_pos (by omega)], fun h => by rw [if_neg (by omega), if_neg (by omega), if_neg (by omega)]⟩
  refine Ct.of _ rfl rfl rfl (Nat.le_of_ble_eq_true rfl) (fun hB => ?_)
  refine J_iload_n (i := 1) 1 dX9_isAsTold_0 rfl rfl rfl ?_
  refine J_bipush 3 dX9_isAsTold_1 rfl (by decide) ?_
  refine J_icmp_eq 20 6 dX9_isAsTold_3 rfl rfl (fun c1 => ?_) (fun c1 => ?_)
  · refine J_iconst 21 dX9_isAsTold_20 rfl ?_
    refine J_goto 26 dX9_isAsTold_21 rfl ?_
    refine J_istore_n (i := 2) 27 dX9_isAsTold_26 rfl rfl (by decide) ?_
    refine J_iload_n (i := 1) 28 dX9_isAsTold_27 rfl rfl rfl ?_
    refine J_i2l 29 dX9_isAsTold_28 rfl ?_
    refine J_lconst (z := 0) 30 dX9_isAsTold_29 rfl rfl ?_
    refine J_ldc2 33 dX9_isAsTold_30 rfl cstX9_203 ?_
    refine J_callSi 36 dX9_isAsTold_33 rfl kX9_107 mX9_in (c_X9_in) (by first | decide | omega) rfl rfl (Nat.le_of_ble_eq_true rfl) (fun z3 s4 h2 => ?_)
    obtain ⟨rfl, rfl⟩ := h2
    refine J_bif_eq 54 39 dX9_isAsTold_36 rfl rfl (fun c5 => ?_) (fun c5 => ?_)
    · refine J_iconst 55 dX9_isAsTold_54 rfl ?_
      refine J_zret dX9_isAsTold_55 rfl ?_
      first | exact ⟨b01_t (by omega), rfl⟩ | exact ⟨b01_f (by omega), rfl⟩
    · refine J_iload_n (i := 0) 40 dX9_isAsTold_39 rfl rfl rfl ?_
      refine J_i2l 41 dX9_isAsTold_40 rfl ?_
      refine J_lconst (z := 0) 42 dX9_isAsTold_41 rfl rfl ?_
      refine J_iload_n (i := 2) 43 dX9_isAsTold_42 rfl rfl rfl ?_
      refine J_i2l 44 dX9_isAsTold_43 rfl ?_
      refine J_callSi 47 dX9_isAsTold_44 rfl kX9_107 mX9_in (c_X9_in) (by first | decide | omega) rfl rfl (Nat.le_of_ble_eq_true rfl) (fun z7 s8 h6 => ?_)
      obtain ⟨rfl, rfl⟩ := h6
      refine J_bif_eq 54 50 dX9_isAsTold_47 rfl rfl (fun c9 => ?_) (fun c9 => ?_)
      · refine J_iconst 55 dX9_isAsTold_54 rfl ?_
        refine J_zret dX9_isAsTold_55 rfl ?_
        first | exact ⟨b01_t (by omega), rfl⟩ | exact ⟨b01_f (by omega), rfl⟩
      · refine J_iconst 51 dX9_isAsTold_50 rfl ?_
        refine J_goto 55 dX9_isAsTold_51 rfl ?_
        refine J_zret dX9_isAsTold_55 rfl ?_
        first | exact ⟨b01_t (by omega), rfl⟩ | exact ⟨b01_f (by omega), rfl⟩
  · refine J_iload_n (i := 1) 7 dX9_isAsTold_6 rfl rfl rfl ?_
    refine J_i2l 8 dX9_isAsTold_7 rfl ?_
    refine J_ldc2 11 dX9_isAsTold_8 rfl cstX9_201 ?_
    refine J_ldc2 14 dX9_isAsTold_11 rfl cstX9_203 ?_
    refine J_callSi 17 dX9_isAsTold_14 rfl kX9_107 mX9_in (c_X9_in) (by first | decide | omega) rfl rfl (Nat.le_of_ble_eq_true rfl) (fun z11 s12 h10 => ?_)
    obtain ⟨rfl, rfl⟩ := h10
    refine J_bif_eq 24 20 dX9_isAsTold_17 rfl rfl (fun c13 => ?_) (fun c13 => ?_)
    · refine J_bipush 26 dX9_isAsTold_24 rfl (by decide) ?_
      refine J_istore_n (i := 2) 27 dX9_isAsTold_26 rfl rfl (by decide) ?_
      refine J_iload_n (i := 1) 28 dX9_isAsTold_27 rfl rfl rfl ?_
      refine J_i2l 29 dX9_isAsTold_28 rfl ?_
      refine J_lconst (z := 0) 30 dX9_isAsTold_29 rfl rfl ?_
      refine J_ldc2 33 dX9_isAsTold_30 rfl cstX9_203 ?_
      refine J_callSi 36 dX9_isAsTold_33 rfl kX9_107 mX9_in (c_X9_in) (by first | decide | omega) rfl rfl (Nat.le_of_ble_eq_true rfl) (fun z15 s16 h14 => ?_)
      obtain ⟨rfl, rfl⟩ := h14
      refine J_bif_eq 54 39 dX9_isAsTold_36 rfl rfl (fun c17 => ?_) (fun c17 => ?_)
      · refine J_iconst 55 dX9_isAsTold_54 rfl ?_
        refine J_zret dX9_isAsTold_55 rfl ?_
        first | exact ⟨b01_t (by omega), rfl⟩ | exact ⟨b01_f (by omega), rfl⟩
      · refine J_iload_n (i := 0) 40 dX9_isAsTold_39 rfl rfl rfl ?_
        refine J_i2l 41 dX9_isAsTold_40 rfl ?_
        refine J_lconst (z := 0) 42 dX9_isAsTold_41 rfl rfl ?_
        refine J_iload_n (i := 2) 43 dX9_isAsTold_42 rfl rfl rfl ?_
        refine J_i2l 44 dX9_isAsTold_43 rfl ?_
        refine J_callSi 47 dX9_isAsTold_44 rfl kX9_107 mX9_in (c_X9_in) (by first | decide | omega) rfl rfl (Nat.le_of_ble_eq_true rfl) (fun z19 s20 h18 => ?_)
        obtain ⟨rfl, rfl⟩ := h18
        refine J_bif_eq 54 50 dX9_isAsTold_47 rfl rfl (fun c21 => ?_) (fun c21 => ?_)
        · refine J_iconst 55 dX9_isAsTold_54 rfl ?_
          refine J_zret dX9_isAsTold_55 rfl ?_
          first | exact ⟨b01_t (by omega), rfl⟩ | exact ⟨b01_f (by omega), rfl⟩
        · refine J_iconst 51 dX9_isAsTold_50 rfl ?_
          refine J_goto 55 dX9_isAsTold_51 rfl ?_
          refine J_zret dX9_isAsTold_55 rfl ?_
          first | exact ⟨b01_t (by omega), rfl⟩ | exact ⟨b01_f (by omega), rfl⟩
    · refine J_iconst 21 dX9_isAsTold_20 rfl ?_
      refine J_goto 26 dX9_isAsTold_21 rfl ?_
      refine J_istore_n (i := 2) 27 dX9_isAsTold_26 rfl rfl (by decide) ?_
      refine J_iload_n (i := 1) 28 dX9_isAsTold_27 rfl rfl rfl ?_
      refine J_i2l 29 dX9_isAsTold_28 rfl ?_
      refine J_lconst (z := 0) 30 dX9_isAsTold_29 rfl rfl ?_
      refine J_ldc2 33 dX9_isAsTold_30 rfl cstX9_203 ?_
      refine J_callSi 36 dX9_isAsTold_33 rfl kX9_107 mX9_in (c_X9_in) (by first | decide | omega) rfl rfl (Nat.le_of_ble_eq_true rfl) (fun z23 s24 h22 => ?_)
      obtain ⟨rfl, rfl⟩ := h22
      refine J_bif_eq 54 39 dX9_isAsTold_36 rfl rfl (fun c25 => ?_) (fun c25 => ?_)
      · refine J_iconst 55 dX9_isAsTold_54 rfl ?_
        refine J_zret dX9_isAsTold_55 rfl ?_
        first | exact ⟨b01_t (by omega), rfl⟩ | exact ⟨b01_f (by omega), rfl⟩
      · refine J_iload_n (i := 0) 40 dX9_isAsTold_39 rfl rfl rfl ?_
        refine J_i2l 41 dX9_isAsTold_40 rfl ?_
        refine J_lconst (z := 0) 42 dX9_isAsTold_41 rfl rfl ?_
        refine J_iload_n (i := 2) 43 dX9_isAsTold_42 rfl rfl rfl ?_
        refine J_i2l 44 dX9_isAsTold_43 rfl ?_
        refine J_callSi 47 dX9_isAsTold_44 rfl kX9_107 mX9_in (c_X9_in) (by first | decide | omega) rfl rfl (Nat.le_of_ble_eq_true rfl) (fun z27 s28 h26 => ?_)
        obtain ⟨rfl, rfl⟩ := h26
        refine J_bif_eq 54 50 dX9_isAsTold_47 rfl rfl (fun c29 => ?_) (fun c29 => ?_)
        · refine J_iconst 55 dX9_isAsTold_54 rfl ?_
          refine J_zret dX9_isAsTold_55 rfl ?_
          first | exact ⟨b01_t (by omega), rfl⟩ | exact ⟨b01_f (by omega), rfl⟩
        · refine J_iconst 51 dX9_isAsTold_50 rfl ?_
          refine J_goto 55 dX9_isAsTold_51 rfl ?_
          refine J_zret dX9_isAsTold_55 rfl ?_
          first | exact ⟨b01_t (by omega), rfl⟩ | exact ⟨b01_f (by omega), rfl⟩
set_option maxHeartbeats 4000000 in
theorem c_X9_doesPair (hn : 0 < σ 36 2) (hm : 0 ≤ x ∧ x ≤ mostM a) : Ct P 4 yX9_doesPair cX9_doesPair 3 (some .boolean) [vr P 36, vi x, vi a] σ (rI (b01 (actOK (vR σ) a x = true)) (if actOK (vR σ) a x = true then actR σ a x else σ)) := by
  refine Ct.bd (fun hB => ?_)
  have ha := mostM_b hm
  have h9 := mostM_9 hm
  have hiff := actOK_iff (σ := σ) (x := x) ha
  have z1 := aDig_ge (n := σ 36 2) (c := a) (x := x) (show 0 ≤ σ 40 a ∧ σ 40 a ≤ 9 from hB 40 a)
  have z2 := aDig_ge (n := σ 36 1) (c := a - 8) (x := x) (show 0 ≤ σ 37 (a - 8) ∧ σ 37 (a - 8) ≤ 9 from hB 37 (a - 8))
  have z3b : 0 ≤ σ 41 (a - 11) ∧ σ 41 (a - 11) ≤ 2 := hB 41 (a - 11)
  have z3 := ite_ge (p := (0 ≤ a - 11 ∧ a - 11 < σ 36 2) ∧ 0 ≤ x ∧ x < σ 36 1) (show 0 ≤ σ 41 (a - 11) ∧ σ 41 (a - 11) ≤ 9 by omega)
  have z4b : 0 ≤ σ 36 3 ∧ σ 36 3 ≤ 2 := hB 36 3
  have z4 := ite2_ge (p := 0 ≤ x ∧ x ≤ 2) (q := 0 < σ 36 2) (show 0 ≤ σ 36 3 ∧ σ 36 3 ≤ 9 by omega)
  have z5 := ite2_ge (p := 0 ≤ x ∧ x ≤ 9) (q := 0 < σ 36 2) (show 0 ≤ σ 36 4 ∧ σ 36 4 ≤ 9 from hB 36 4)
  generalize hg1 : aDig (σ 36 2) a x (σ 40 a) = r1 at z1
  generalize hg2 : aDig (σ 36 1) (a - 8) x (σ 37 (a - 8)) = r2 at z2
  generalize hg3 : (if ¬ ((0 ≤ a - 11 ∧ a - 11 < σ 36 2) ∧ 0 ≤ x ∧ x < σ 36 1) then -1 else σ 41 (a - 11)) = r3 at z3
  generalize hg4 : (if ¬ (0 ≤ x ∧ x ≤ 2) then -2 else if ¬ 0 < σ 36 2 then -3 else σ 36 3) = r4 at z4
  generalize hg5 : (if ¬ (0 ≤ x ∧ x ≤ 9) then -2 else if ¬ 0 < σ 36 2 then -3 else σ 36 4) = r5 at z5
  refine Ct.of _ rfl rfl rfl (Nat.le_of_ble_eq_true rfl) (fun hB => ?_)
  refine J_iload_n (i := 2) 1 dX9_doesPair_0 rfl rfl rfl ?_
  refine J_bipush 3 dX9_doesPair_1 rfl (by decide) ?_
  refine J_icmp_ge 21 6 dX9_doesPair_3 rfl rfl (fun c1 => ?_) (fun c1 => ?_)
  · refine J_iload_n (i := 2) 22 dX9_doesPair_21 rfl rfl rfl ?_
    refine J_bipush 24 dX9_doesPair_22 rfl (by decide) ?_
    refine J_icmp_ge 55 27 dX9_doesPair_24 rfl rfl (fun c2 => ?_) (fun c2 => ?_)
    · refine J_iload_n (i := 2) 56 dX9_doesPair_55 rfl rfl rfl ?_
      refine J_bipush 58 dX9_doesPair_56 rfl (by decide) ?_
      refine J_icmp_ge 73 61 dX9_doesPair_58 rfl rfl (fun c3 => ?_) (fun c3 => ?_)
      · refine J_aload_n (i := 0) 74 dX9_doesPair_73 rfl rfl rfl ?_
        refine J_iload_n (i := 2) 75 dX9_doesPair_74 rfl rfl rfl ?_
        refine J_bipush 77 dX9_doesPair_75 rfl (by decide) ?_
        refine J_isub 78 dX9_doesPair_77 rfl ?_
        refine J_iload_n (i := 1) 79 dX9_doesPair_78 rfl rfl rfl ?_
        refine J_callVi 82 dX9_doesPair_79 rfl kX9_217 mX9_lead rfl rfl rfl (c_X9_lead) (by first | decide | omega) rfl rfl (Nat.le_of_ble_eq_true rfl) (fun z5 s6 h4 => ?_)
        obtain ⟨rfl, rfl⟩ := h4
        rw [hg3]
        refine J_if_lt 89 85 dX9_doesPair_82 rfl rfl (fun c7 => ?_) (fun c7 => ?_)
        · refine J_iconst 90 dX9_doesPair_89 rfl ?_
          refine J_zret dX9_doesPair_90 rfl ?_
          first
            | (have hk : actOK (vR σ) a x = true := hiff.mpr (by omega)
               refine ⟨b01_t hk, ?_⟩
               rw [if_pos hk, if_pos (by omega)]
               unfold actR
               first | (rw [if_pos (by omega)]; done) | (rw [if_neg (by omega), if_pos (by omega)]; done) | (rw [if_neg (by omega), if_neg (by omega), if_pos (by omega)]; done) | (rw [if_neg (by omega), if_neg (by omega), if_neg (by omega), if_pos (by omega)]; done) | (rw [if_neg (by omega), if_neg (by omega), if_neg (by omega), if_neg (by omega)]; done))
            | (have hk : ¬ actOK (vR σ) a x = true := fun h => by { have := hiff.mp h; omega }
               refine ⟨b01_f hk, ?_⟩
               rw [if_neg hk, if_neg (by omega)])
        · refine J_iconst 86 dX9_doesPair_85 rfl ?_
          refine J_goto 90 dX9_doesPair_86 rfl ?_
          refine J_zret dX9_doesPair_90 rfl ?_
          first
            | (have hk : actOK (vR σ) a x = true := hiff.mpr (by omega)
               refine ⟨b01_t hk, ?_⟩
               rw [if_pos hk, if_pos (by omega)]
               unfold actR
               first | (rw [if_pos (by omega)]; done) | (rw [if_neg (by omega), if_pos (by omega)]; done) | (rw [if_neg (by omega), if_neg (by omega), if_pos (by omega)]; done) | (rw [if_neg (by omega), if_neg (by omega), if_neg (by omega), if_pos (by omega)]; done) | (rw [if_neg (by omega), if_neg (by omega), if_neg (by omega), if_neg (by omega)]; done))
            | (have hk : ¬ actOK (vR σ) a x = true := fun h => by { have := hiff.mp h; omega }
               refine ⟨b01_f hk, ?_⟩
               rw [if_neg hk, if_neg (by omega)])
      · refine J_aload_n (i := 0) 62 dX9_doesPair_61 rfl rfl rfl ?_
        refine J_iload_n (i := 2) 63 dX9_doesPair_62 rfl rfl rfl ?_
        refine J_bipush 65 dX9_doesPair_63 rfl (by decide) ?_
        refine J_isub 66 dX9_doesPair_65 rfl ?_
        refine J_iload_n (i := 1) 67 dX9_doesPair_66 rfl rfl rfl ?_
        refine J_callVi 70 dX9_doesPair_67 rfl kX9_214 mX9_bake rfl rfl rfl (c_X9_bake) (by first | decide | omega) rfl rfl (Nat.le_of_ble_eq_true rfl) (fun z9 s10 h8 => ?_)
        obtain ⟨rfl, rfl⟩ := h8
        rw [hg2]
        refine J_goto 82 dX9_doesPair_70 rfl ?_
        refine J_if_lt 89 85 dX9_doesPair_82 rfl rfl (fun c11 => ?_) (fun c11 => ?_)
        · refine J_iconst 90 dX9_doesPair_89 rfl ?_
          refine J_zret dX9_doesPair_90 rfl ?_
          first
            | (have hk : actOK (vR σ) a x = true := hiff.mpr (by omega)
               refine ⟨b01_t hk, ?_⟩
               rw [if_pos hk, if_pos (by omega)]
               unfold actR
               first | (rw [if_pos (by omega)]; done) | (rw [if_neg (by omega), if_pos (by omega)]; done) | (rw [if_neg (by omega), if_neg (by omega), if_pos (by omega)]; done) | (rw [if_neg (by omega), if_neg (by omega), if_neg (by omega), if_pos (by omega)]; done) | (rw [if_neg (by omega), if_neg (by omega), if_neg (by omega), if_neg (by omega)]; done))
            | (have hk : ¬ actOK (vR σ) a x = true := fun h => by { have := hiff.mp h; omega }
               refine ⟨b01_f hk, ?_⟩
               rw [if_neg hk, if_neg (by omega)])
        · refine J_iconst 86 dX9_doesPair_85 rfl ?_
          refine J_goto 90 dX9_doesPair_86 rfl ?_
          refine J_zret dX9_doesPair_90 rfl ?_
          first
            | (have hk : actOK (vR σ) a x = true := hiff.mpr (by omega)
               refine ⟨b01_t hk, ?_⟩
               rw [if_pos hk, if_pos (by omega)]
               unfold actR
               first | (rw [if_pos (by omega)]; done) | (rw [if_neg (by omega), if_pos (by omega)]; done) | (rw [if_neg (by omega), if_neg (by omega), if_pos (by omega)]; done) | (rw [if_neg (by omega), if_neg (by omega), if_neg (by omega), if_pos (by omega)]; done) | (rw [if_neg (by omega), if_neg (by omega), if_neg (by omega), if_neg (by omega)]; done))
            | (have hk : ¬ actOK (vR σ) a x = true := fun h => by { have := hiff.mp h; omega }
               refine ⟨b01_f hk, ?_⟩
               rw [if_neg hk, if_neg (by omega)])
    · refine J_iload_n (i := 2) 28 dX9_doesPair_27 rfl rfl rfl ?_
      refine J_bipush 30 dX9_doesPair_28 rfl (by decide) ?_
      refine J_icmp_ne 41 33 dX9_doesPair_30 rfl rfl (fun c12 => ?_) (fun c12 => ?_)
      · refine J_aload_n (i := 0) 42 dX9_doesPair_41 rfl rfl rfl ?_
        refine J_iload_n (i := 1) 43 dX9_doesPair_42 rfl rfl rfl ?_
        refine J_callVi 46 dX9_doesPair_43 rfl kX9_211 mX9_chalk rfl rfl rfl (c_X9_chalk) (by first | decide | omega) rfl rfl (Nat.le_of_ble_eq_true rfl) (fun z14 s15 h13 => ?_)
        obtain ⟨rfl, rfl⟩ := h13
        rw [hg5]
        refine J_if_lt 53 49 dX9_doesPair_46 rfl rfl (fun c16 => ?_) (fun c16 => ?_)
        · refine J_iconst 54 dX9_doesPair_53 rfl ?_
          refine J_zret dX9_doesPair_54 rfl ?_
          first
            | (have hk : actOK (vR σ) a x = true := hiff.mpr (by omega)
               refine ⟨b01_t hk, ?_⟩
               rw [if_pos hk, if_pos (by omega)]
               unfold actR
               first | (rw [if_pos (by omega)]; done) | (rw [if_neg (by omega), if_pos (by omega)]; done) | (rw [if_neg (by omega), if_neg (by omega), if_pos (by omega)]; done) | (rw [if_neg (by omega), if_neg (by omega), if_neg (by omega), if_pos (by omega)]; done) | (rw [if_neg (by omega), if_neg (by omega), if_neg (by omega), if_neg (by omega)]; done))
            | (have hk : ¬ actOK (vR σ) a x = true := fun h => by { have := hiff.mp h; omega }
               refine ⟨b01_f hk, ?_⟩
               rw [if_neg hk, if_neg (by omega)])
        · refine J_iconst 50 dX9_doesPair_49 rfl ?_
          refine J_goto 54 dX9_doesPair_50 rfl ?_
          refine J_zret dX9_doesPair_54 rfl ?_
          first
            | (have hk : actOK (vR σ) a x = true := hiff.mpr (by omega)
               refine ⟨b01_t hk, ?_⟩
               rw [if_pos hk, if_pos (by omega)]
               unfold actR
               first | (rw [if_pos (by omega)]; done) | (rw [if_neg (by omega), if_pos (by omega)]; done) | (rw [if_neg (by omega), if_neg (by omega), if_pos (by omega)]; done) | (rw [if_neg (by omega), if_neg (by omega), if_neg (by omega), if_pos (by omega)]; done) | (rw [if_neg (by omega), if_neg (by omega), if_neg (by omega), if_neg (by omega)]; done))
            | (have hk : ¬ actOK (vR σ) a x = true := fun h => by { have := hiff.mp h; omega }
               refine ⟨b01_f hk, ?_⟩
               rw [if_neg hk, if_neg (by omega)])
      · refine J_aload_n (i := 0) 34 dX9_doesPair_33 rfl rfl rfl ?_
        refine J_iload_n (i := 1) 35 dX9_doesPair_34 rfl rfl rfl ?_
        refine J_callVi 38 dX9_doesPair_35 rfl kX9_208 mX9_manner rfl rfl rfl (c_X9_manner) (by first | decide | omega) rfl rfl (Nat.le_of_ble_eq_true rfl) (fun z18 s19 h17 => ?_)
        obtain ⟨rfl, rfl⟩ := h17
        rw [hg4]
        refine J_goto 46 dX9_doesPair_38 rfl ?_
        refine J_if_lt 53 49 dX9_doesPair_46 rfl rfl (fun c20 => ?_) (fun c20 => ?_)
        · refine J_iconst 54 dX9_doesPair_53 rfl ?_
          refine J_zret dX9_doesPair_54 rfl ?_
          first
            | (have hk : actOK (vR σ) a x = true := hiff.mpr (by omega)
               refine ⟨b01_t hk, ?_⟩
               rw [if_pos hk, if_pos (by omega)]
               unfold actR
               first | (rw [if_pos (by omega)]; done) | (rw [if_neg (by omega), if_pos (by omega)]; done) | (rw [if_neg (by omega), if_neg (by omega), if_pos (by omega)]; done) | (rw [if_neg (by omega), if_neg (by omega), if_neg (by omega), if_pos (by omega)]; done) | (rw [if_neg (by omega), if_neg (by omega), if_neg (by omega), if_neg (by omega)]; done))
            | (have hk : ¬ actOK (vR σ) a x = true := fun h => by { have := hiff.mp h; omega }
               refine ⟨b01_f hk, ?_⟩
               rw [if_neg hk, if_neg (by omega)])
        · refine J_iconst 50 dX9_doesPair_49 rfl ?_
          refine J_goto 54 dX9_doesPair_50 rfl ?_
          refine J_zret dX9_doesPair_54 rfl ?_
          first
            | (have hk : actOK (vR σ) a x = true := hiff.mpr (by omega)
               refine ⟨b01_t hk, ?_⟩
               rw [if_pos hk, if_pos (by omega)]
               unfold actR
               first | (rw [if_pos (by omega)]; done) | (rw [if_neg (by omega), if_pos (by omega)]; done) | (rw [if_neg (by omega), if_neg (by omega), if_pos (by omega)]; done) | (rw [if_neg (by omega), if_neg (by omega), if_neg (by omega), if_pos (by omega)]; done) | (rw [if_neg (by omega), if_neg (by omega), if_neg (by omega), if_neg (by omega)]; done))
            | (have hk : ¬ actOK (vR σ) a x = true := fun h => by { have := hiff.mp h; omega }
               refine ⟨b01_f hk, ?_⟩
               rw [if_neg hk, if_neg (by omega)])
  · refine J_aload_n (i := 0) 7 dX9_doesPair_6 rfl rfl rfl ?_
    refine J_iload_n (i := 2) 8 dX9_doesPair_7 rfl rfl rfl ?_
    refine J_iload_n (i := 1) 9 dX9_doesPair_8 rfl rfl rfl ?_
    refine J_callVi 12 dX9_doesPair_9 rfl kX9_205 mX9_show rfl rfl rfl (c_X9_show) (by first | decide | omega) rfl rfl (Nat.le_of_ble_eq_true rfl) (fun z22 s23 h21 => ?_)
    obtain ⟨rfl, rfl⟩ := h21
    rw [hg1]
    refine J_if_lt 19 15 dX9_doesPair_12 rfl rfl (fun c24 => ?_) (fun c24 => ?_)
    · refine J_iconst 20 dX9_doesPair_19 rfl ?_
      refine J_zret dX9_doesPair_20 rfl ?_
      first
        | (have hk : actOK (vR σ) a x = true := hiff.mpr (by omega)
           refine ⟨b01_t hk, ?_⟩
           rw [if_pos hk, if_pos (by omega)]
           unfold actR
           first | (rw [if_pos (by omega)]; done) | (rw [if_neg (by omega), if_pos (by omega)]; done) | (rw [if_neg (by omega), if_neg (by omega), if_pos (by omega)]; done) | (rw [if_neg (by omega), if_neg (by omega), if_neg (by omega), if_pos (by omega)]; done) | (rw [if_neg (by omega), if_neg (by omega), if_neg (by omega), if_neg (by omega)]; done))
        | (have hk : ¬ actOK (vR σ) a x = true := fun h => by { have := hiff.mp h; omega }
           refine ⟨b01_f hk, ?_⟩
           rw [if_neg hk, if_neg (by omega)])
    · refine J_iconst 16 dX9_doesPair_15 rfl ?_
      refine J_goto 20 dX9_doesPair_16 rfl ?_
      refine J_zret dX9_doesPair_20 rfl ?_
      first
        | (have hk : actOK (vR σ) a x = true := hiff.mpr (by omega)
           refine ⟨b01_t hk, ?_⟩
           rw [if_pos hk, if_pos (by omega)]
           unfold actR
           first | (rw [if_pos (by omega)]; done) | (rw [if_neg (by omega), if_pos (by omega)]; done) | (rw [if_neg (by omega), if_neg (by omega), if_pos (by omega)]; done) | (rw [if_neg (by omega), if_neg (by omega), if_neg (by omega), if_pos (by omega)]; done) | (rw [if_neg (by omega), if_neg (by omega), if_neg (by omega), if_neg (by omega)]; done))
        | (have hk : ¬ actOK (vR σ) a x = true := fun h => by { have := hiff.mp h; omega }
           refine ⟨b01_f hk, ?_⟩
           rw [if_neg hk, if_neg (by omega)])
set_option maxHeartbeats 4000000 in
theorem l_X9_dayOfC {R : Int} {F : jS → Prop} (hvB : wvB (vR τ)) (hs : givQ τ v) (hF : F v) (hn : 0 ≤ τ 36 1 ∧ τ 36 1 ≤ 3) (hx : 0 ≤ x ∧ x ≤ 4) (hc : 0 ≤ c ∧ c ≤ 6) (hd0 : 0 ≤ d ∧ d ≤ 1000) (hR : R = if x = 0 then c else if x = 2 then starvM (vR τ) else if x = 3 then sumN (leftM (vR τ)) (gM (vR τ)) else d) (hB : jBd τ) : ∀ (k i : Nat) (q r : Int), i + k = gM (vR τ) → q = i → r = sumN (leftM (vR τ)) i → J P 5 (RX9, cX9_dayOf, 9, some .int) 180 [some (vr P 36), some (vi a), some (vi b), some (vi x), some (vi y), some (vi c), some (vi d), some (vi r), some (vi q)] [] v (qi fun z σ' => R = z ∧ F σ') := by
  intro k
  induction k with
  | zero =>
    intro i q r hi hq hr
    have e2 : gM (vR τ) = (τ 36 1).toNat := rfl
    have en : v 36 1 = τ 36 1 := by rw [hs.1 36 (by omega) (by omega) (by omega)]
    have hrr : r = sumN (leftM (vR τ)) (gM (vR τ)) := by rw [Nat.add_zero] at hi; rw [hr, hi]
    refine J_iload 182 dX9_dayOf_180 rfl rfl ?_
    refine J_aload_n (i := 0) 183 dX9_dayOf_182 rfl rfl rfl ?_
    refine J_getI (jz := 1) (lo := 0) (hi := 3) 186 dX9_dayOf_183 rfl fX9_111 rfl rfl rfl rfl (fun b1 b2 => ?_)
    refine J_icmp_ge 207 189 dX9_dayOf_186 rfl rfl (fun c3 => ?_) (fun c3 => ?_)
    · refine J_iload_n (i := 3) 208 dX9_dayOf_207 rfl rfl rfl ?_
      refine J_if_ne 216 211 dX9_dayOf_208 rfl rfl (fun c4 => ?_) (fun c4 => ?_)
      · refine J_iload_n (i := 3) 217 dX9_dayOf_216 rfl rfl rfl ?_
        refine J_iconst 218 dX9_dayOf_217 rfl ?_
        refine J_icmp_ne 228 221 dX9_dayOf_218 rfl rfl (fun c5 => ?_) (fun c5 => ?_)
        · refine J_iload_n (i := 3) 229 dX9_dayOf_228 rfl rfl rfl ?_
          refine J_iconst 230 dX9_dayOf_229 rfl ?_
          refine J_icmp_ne 238 233 dX9_dayOf_230 rfl rfl (fun c6 => ?_) (fun c6 => ?_)
          · refine J_iload 240 dX9_dayOf_238 rfl rfl ?_
            refine J_iret dX9_dayOf_240 rfl ?_
            refine ⟨?_, hF⟩
            rw [hR]
            first
              | (exfalso; omega)
              | (rw [if_pos (by omega)]; done)
              | (rw [if_neg (by omega), if_pos (by omega), who_eq hB hs]; done)
              | (rw [if_neg (by omega), if_neg (by omega), if_pos (by omega)]; exact hrr.symm)
              | (rw [if_neg (by omega), if_neg (by omega), if_neg (by omega)]; done)
          · refine J_iload 235 dX9_dayOf_233 rfl rfl ?_
            refine J_goto 240 dX9_dayOf_235 rfl ?_
            refine J_iret dX9_dayOf_240 rfl ?_
            refine ⟨?_, hF⟩
            rw [hR]
            first
              | (exfalso; omega)
              | (rw [if_pos (by omega)]; done)
              | (rw [if_neg (by omega), if_pos (by omega), who_eq hB hs]; done)
              | (rw [if_neg (by omega), if_neg (by omega), if_pos (by omega)]; exact hrr.symm)
              | (rw [if_neg (by omega), if_neg (by omega), if_neg (by omega)]; done)
        · refine J_aload_n (i := 0) 222 dX9_dayOf_221 rfl rfl rfl ?_
          refine J_callVi 225 dX9_dayOf_222 rfl kX9_192 mX9_whoGoWithout rfl rfl rfl (c_X9_whoGoWithout) (by first | decide | omega) rfl rfl (Nat.le_of_ble_eq_true rfl) (fun z8 s9 h7 => ?_)
          obtain ⟨rfl, rfl⟩ := h7
          refine J_goto 240 dX9_dayOf_225 rfl ?_
          refine J_iret dX9_dayOf_240 rfl ?_
          refine ⟨?_, hF⟩
          rw [hR]
          first
            | (exfalso; omega)
            | (rw [if_pos (by omega)]; done)
            | (rw [if_neg (by omega), if_pos (by omega), who_eq hB hs]; done)
            | (rw [if_neg (by omega), if_neg (by omega), if_pos (by omega)]; exact hrr.symm)
            | (rw [if_neg (by omega), if_neg (by omega), if_neg (by omega)]; done)
      · refine J_iload 213 dX9_dayOf_211 rfl rfl ?_
        refine J_goto 240 dX9_dayOf_213 rfl ?_
        refine J_iret dX9_dayOf_240 rfl ?_
        refine ⟨?_, hF⟩
        rw [hR]
        first
          | (exfalso; omega)
          | (rw [if_pos (by omega)]; done)
          | (rw [if_neg (by omega), if_pos (by omega), who_eq hB hs]; done)
          | (rw [if_neg (by omega), if_neg (by omega), if_pos (by omega)]; exact hrr.symm)
          | (rw [if_neg (by omega), if_neg (by omega), if_neg (by omega)]; done)
    · exfalso; omega
  | succ k ih =>
    intro i q r hi hq hr
    have e2 : gM (vR τ) = (τ 36 1).toNat := rfl
    have en : v 36 1 = τ 36 1 := by rw [hs.1 36 (by omega) (by omega) (by omega)]
    have e52 : v 52 q = leftM (vR τ) q := hs.2.2 q (by omega) (by omega)
    have hpb := sumN_b (leftM_b hvB) i
    have hld := leftM_b hvB q
    refine J_iload 182 dX9_dayOf_180 rfl rfl ?_
    refine J_aload_n (i := 0) 183 dX9_dayOf_182 rfl rfl rfl ?_
    refine J_getI (jz := 1) (lo := 0) (hi := 3) 186 dX9_dayOf_183 rfl fX9_111 rfl rfl rfl rfl (fun b1 b2 => ?_)
    refine J_icmp_ge 207 189 dX9_dayOf_186 rfl rfl (fun c3 => ?_) (fun c3 => ?_)
    · exfalso; omega
    · refine J_iload 191 dX9_dayOf_189 rfl rfl ?_
      refine J_aload_n (i := 0) 192 dX9_dayOf_191 rfl rfl rfl ?_
      refine J_getR 195 dX9_dayOf_192 rfl fX9_55 rfl rfl ?_
      refine J_iload 197 dX9_dayOf_195 rfl rfl ?_
      refine J_iald (N := 3) (lo := (-99)) (hi := 9) 198 dX9_dayOf_197 rfl rfl rfl rfl (fun b4 b5 => ?_)
      refine J_iadd 199 dX9_dayOf_198 rfl ?_
      refine J_istore 201 dX9_dayOf_199 rfl (by decide) ?_
      refine J_iinc 204 dX9_dayOf_201 rfl (by decide) rfl ?_
      refine J_goto 180 dX9_dayOf_204 rfl ?_
      refine ih (i + 1) _ _ (by omega) (by omega) ?_
      rw [e52, hr, hq]
      rfl
set_option maxHeartbeats 4000000 in
theorem l_X9_dayOfB {R : Int} {F : jS → Prop} (hvB : wvB (vR τ)) (hs : givQ τ v) (hF : F v) (hn : 0 ≤ τ 36 1 ∧ τ 36 1 ≤ 3) (hn6 : 0 ≤ τ 36 2 ∧ τ 36 2 ≤ 6) (hx : 0 ≤ x ∧ x ≤ 4 ∧ ¬ x = 1) (hR : R = askM (vR τ) x) (hB : jBd τ) : ∀ (k i : Nat) (q c d : Int), i + k = nM (vR τ) → q = i → c = sumN (eaterF (vR τ)) i → d = sumN (lookM (vR τ)) i → J P 5 (RX9, cX9_dayOf, 9, some .int) 128 [some (vr P 36), some (vi a), some (vi b), some (vi x), some (vi y), some (vi c), some (vi d), some (vi q), none] [] v (qi fun z σ' => R = z ∧ F σ') := by
  intro k
  induction k with
  | zero =>
    intro i q c d hi hq hc hd
    have e2 : nM (vR τ) = (τ 36 2).toNat := rfl
    have en : v 36 2 = τ 36 2 := by rw [hs.1 36 (by omega) (by omega) (by omega)]
    rw [Nat.add_zero] at hi
    have heb := sumN_b (a := 0) (b := 1) (f := eaterF (vR τ)) (fun j => by unfold eaterF; split <;> omega) i
    have hlb := sumN_b (lookM_b hvB) i
    refine J_iload 130 dX9_dayOf_128 rfl rfl ?_
    refine J_aload_n (i := 0) 131 dX9_dayOf_130 rfl rfl rfl ?_
    refine J_getI (jz := 2) (lo := 0) (hi := 6) 134 dX9_dayOf_131 rfl fX9_104 rfl rfl rfl rfl (fun b1 b2 => ?_)
    refine J_icmp_ge 174 137 dX9_dayOf_134 rfl rfl (fun c3 => ?_) (fun c3 => ?_)
    · refine J_iconst 175 dX9_dayOf_174 rfl ?_
      refine J_istore 177 dX9_dayOf_175 rfl (by decide) ?_
      refine J_iconst 178 dX9_dayOf_177 rfl ?_
      refine J_istore 180 dX9_dayOf_178 rfl (by decide) ?_
      refine l_X9_dayOfC hvB hs hF hn (by omega) (by omega) (by omega) ?_ hB _ 0 _ _ (Nat.zero_add _) rfl rfl
      rw [hR, hc, hd, hi]
      unfold askM
      rcases (show x = 0 ∨ x = 2 ∨ x = 3 ∨ x = 4 by omega) with rfl | rfl | rfl | rfl <;> rfl
    · exfalso; omega
  | succ k ih =>
    intro i q c d hi hq hc hd
    have e2 : nM (vR τ) = (τ 36 2).toNat := rfl
    have en : v 36 2 = τ 36 2 := by rw [hs.1 36 (by omega) (by omega) (by omega)]
    have e50 : v 50 q = eatsM (vR τ) q := (hs.2.1 q (by omega) (by omega)).1
    have heb := sumN_b (a := 0) (b := 1) (f := eaterF (vR τ)) (fun j => by unfold eaterF; split <;> omega) i
    have hlb := sumN_b (lookM_b hvB) i
    have hl1 := lookM_b hvB q
    have hst : sumN (eaterF (vR τ)) (i + 1) = c + (if 0 < eatsM (vR τ) q then 1 else 0) := by rw [hc, hq]; rfl
    refine J_iload 130 dX9_dayOf_128 rfl rfl ?_
    refine J_aload_n (i := 0) 131 dX9_dayOf_130 rfl rfl rfl ?_
    refine J_getI (jz := 2) (lo := 0) (hi := 6) 134 dX9_dayOf_131 rfl fX9_104 rfl rfl rfl rfl (fun b1 b2 => ?_)
    refine J_icmp_ge 174 137 dX9_dayOf_134 rfl rfl (fun c3 => ?_) (fun c3 => ?_)
    · exfalso; omega
    · refine J_iload 139 dX9_dayOf_137 rfl rfl ?_
      refine J_aload_n (i := 0) 140 dX9_dayOf_139 rfl rfl rfl ?_
      refine J_getR 143 dX9_dayOf_140 rfl fX9_49 rfl rfl ?_
      refine J_iload 145 dX9_dayOf_143 rfl rfl ?_
      refine J_iald (N := 6) (lo := 0) (hi := 9) 146 dX9_dayOf_145 rfl rfl rfl rfl (fun b4 b5 => ?_)
      refine J_if_le 153 149 dX9_dayOf_146 rfl rfl (fun c6 => ?_) (fun c6 => ?_)
      · refine J_iconst 154 dX9_dayOf_153 rfl ?_
        refine J_iadd 155 dX9_dayOf_154 rfl ?_
        refine J_istore 157 dX9_dayOf_155 rfl (by decide) ?_
        refine J_iload 159 dX9_dayOf_157 rfl rfl ?_
        refine J_aload_n (i := 0) 160 dX9_dayOf_159 rfl rfl rfl ?_
        refine J_iload 162 dX9_dayOf_160 rfl rfl ?_
        refine J_callVi 165 dX9_dayOf_162 rfl kX9_171 mX9_look rfl rfl rfl (c_X9_look) (by first | decide | omega) rfl rfl (Nat.le_of_ble_eq_true rfl) (fun z8 s9 h7 => ?_)
        obtain ⟨rfl, rfl⟩ := h7
        rw [vR_G3 hs.1]
        refine J_iadd 166 dX9_dayOf_165 rfl ?_
        refine J_istore 168 dX9_dayOf_166 rfl (by decide) ?_
        refine J_iinc 171 dX9_dayOf_168 rfl (by decide) rfl ?_
        refine J_goto 128 dX9_dayOf_171 rfl ?_
        refine J.wk (ih (i + 1) (q + 1) _ _ (by omega) (by omega) ?_ ?_) ⟨rfl, rfl, rfl, rfl, rfl, rfl, rfl, rfl, trivial⟩
        · rw [hst]
          first | (rw [if_pos (by omega)]; done) | (rw [if_neg (by omega)]; done)
        · rw [hd, hq]
          rfl
      · refine J_iconst 150 dX9_dayOf_149 rfl ?_
        refine J_goto 154 dX9_dayOf_150 rfl ?_
        refine J_iadd 155 dX9_dayOf_154 rfl ?_
        refine J_istore 157 dX9_dayOf_155 rfl (by decide) ?_
        refine J_iload 159 dX9_dayOf_157 rfl rfl ?_
        refine J_aload_n (i := 0) 160 dX9_dayOf_159 rfl rfl rfl ?_
        refine J_iload 162 dX9_dayOf_160 rfl rfl ?_
        refine J_callVi 165 dX9_dayOf_162 rfl kX9_171 mX9_look rfl rfl rfl (c_X9_look) (by first | decide | omega) rfl rfl (Nat.le_of_ble_eq_true rfl) (fun z11 s12 h10 => ?_)
        obtain ⟨rfl, rfl⟩ := h10
        rw [vR_G3 hs.1]
        refine J_iadd 166 dX9_dayOf_165 rfl ?_
        refine J_istore 168 dX9_dayOf_166 rfl (by decide) ?_
        refine J_iinc 171 dX9_dayOf_168 rfl (by decide) rfl ?_
        refine J_goto 128 dX9_dayOf_171 rfl ?_
        refine J.wk (ih (i + 1) (q + 1) _ _ (by omega) (by omega) ?_ ?_) ⟨rfl, rfl, rfl, rfl, rfl, rfl, rfl, rfl, trivial⟩
        · rw [hst]
          first | (rw [if_pos (by omega)]; done) | (rw [if_neg (by omega)]; done)
        · rw [hd, hq]
          rfl
set_option maxHeartbeats 4000000 in
theorem l_X9_dayOf64 {R : Int} {base : jS} (hb : BDY base τ) (hok : okG τ) (hx : (0 ≤ x ∧ x ≤ 4) ∨ (10 ≤ x ∧ x ≤ 15)) (hy : y = -9 ∨ (0 ≤ y ∧ y ≤ 20)) (hR : R = if x = 1 then y else if y = -9 then askM (vR τ) x else -100 - y) : J P 5 (RX9, cX9_dayOf, 9, some .int) 64 [some (vr P 36), some (vi a), some (vi b), some (vi x), some (vi y), some (vi d), none, none, none] [] τ (qi fun z σ' => R = z ∧ BDY base σ') := by
  refine J.bd (fun hB => ?_)
  have hvB := vR_B hB
  have hn6 : 0 ≤ τ 36 2 ∧ τ 36 2 ≤ 6 := hB 36 2
  have hn3 : 0 ≤ τ 36 1 ∧ τ 36 1 ≤ 3 := hB 36 1
  refine J_iload_n (i := 3) 65 dX9_dayOf_64 rfl rfl rfl ?_
  refine J_iconst 66 dX9_dayOf_65 rfl ?_
  refine J_icmp_ne 72 69 dX9_dayOf_66 rfl rfl (fun c1 => ?_) (fun c1 => ?_)
  · refine J_iload 74 dX9_dayOf_72 rfl rfl ?_
    refine J_if_lt 83 77 dX9_dayOf_74 rfl rfl (fun c2 => ?_) (fun c2 => ?_)
    · refine J_aload_n (i := 0) 84 dX9_dayOf_83 rfl rfl rfl ?_
      refine J_callVv 87 dX9_dayOf_84 rfl kX9_183 mX9_gives rfl rfl rfl (c_X9_gives hok) (by first | decide | omega) rfl rfl (Nat.le_of_ble_eq_true rfl) (fun s5 h3 => ?_)
      have hG := h3
      have en : s5 36 2 = τ 36 2 := by rw [hG.1 36 (by omega) (by omega) (by omega)]
      refine J_iload_n (i := 3) 88 dX9_dayOf_87 rfl rfl rfl ?_
      refine J_bipush 90 dX9_dayOf_88 rfl (by decide) ?_
      refine J_icmp_lt 119 93 dX9_dayOf_90 rfl rfl (fun c6 => ?_) (fun c6 => ?_)
      · refine J_iconst 120 dX9_dayOf_119 rfl ?_
        refine J_istore 122 dX9_dayOf_120 rfl (by decide) ?_
        refine J_iconst 123 dX9_dayOf_122 rfl ?_
        refine J_istore 125 dX9_dayOf_123 rfl (by decide) ?_
        refine J_iconst 126 dX9_dayOf_125 rfl ?_
        refine J_istore 128 dX9_dayOf_126 rfl (by decide) ?_
        refine J.wk (l_X9_dayOfB hvB hG (BDY_trans hb (BDY_G3 hG.1)) hn3 hn6 (by omega) (by rw [hR, if_neg (by omega), if_pos (by omega)]) hB _ 0 0 0 0 (Nat.zero_add _) rfl rfl rfl) ⟨rfl, rfl, rfl, rfl, rfl, rfl, rfl, rfl, trivial⟩
      · refine J_aload_n (i := 0) 94 dX9_dayOf_93 rfl rfl rfl ?_
        refine J_iload_n (i := 3) 95 dX9_dayOf_94 rfl rfl rfl ?_
        refine J_bipush 97 dX9_dayOf_95 rfl (by decide) ?_
        refine J_isub 98 dX9_dayOf_97 rfl ?_
        refine J_callVi 101 dX9_dayOf_98 rfl kX9_180 mX9_noComer rfl rfl rfl (c_X9_noComer) (by first | decide | omega) rfl rfl (Nat.le_of_ble_eq_true rfl) (fun z8 s9 h7 => ?_)
        obtain ⟨rfl, rfl⟩ := h7
        refine J_bif_eq 109 104 dX9_dayOf_101 rfl rfl (fun c10 => ?_) (fun c10 => ?_)
        · refine J_aload_n (i := 0) 110 dX9_dayOf_109 rfl rfl rfl ?_
          refine J_getR 113 dX9_dayOf_110 rfl fX9_49 rfl rfl ?_
          refine J_iload_n (i := 3) 114 dX9_dayOf_113 rfl rfl rfl ?_
          refine J_bipush 116 dX9_dayOf_114 rfl (by decide) ?_
          refine J_isub 117 dX9_dayOf_116 rfl ?_
          refine J_iald (N := 6) (lo := 0) (hi := 9) 118 dX9_dayOf_117 rfl rfl rfl rfl (fun b11 b12 => ?_)
          refine J_iret dX9_dayOf_118 rfl ?_
          refine ⟨?_, BDY_trans hb (BDY_G3 hG.1)⟩
          rw [hR, if_neg (by omega), if_pos (by omega)]
          unfold askM
          rw [if_neg (by omega), if_neg (by omega), if_neg (by omega), if_neg (by omega)]
          first
            | (exact (if_neg (show ¬ (0 ≤ x - 10 ∧ x - 10 < τ 36 2) by omega)))
            | (rw [(hG.2.1 (x - 10) (by omega) (by omega)).1]; exact (if_pos (show 0 ≤ x - 10 ∧ x - 10 < τ 36 2 by omega)))
        · refine J_bipush 106 dX9_dayOf_104 rfl (by decide) ?_
          refine J_goto 118 dX9_dayOf_106 rfl ?_
          refine J_iret dX9_dayOf_118 rfl ?_
          refine ⟨?_, BDY_trans hb (BDY_G3 hG.1)⟩
          rw [hR, if_neg (by omega), if_pos (by omega)]
          unfold askM
          rw [if_neg (by omega), if_neg (by omega), if_neg (by omega), if_neg (by omega)]
          first
            | (exact (if_neg (show ¬ (0 ≤ x - 10 ∧ x - 10 < τ 36 2) by omega)))
            | (rw [(hG.2.1 (x - 10) (by omega) (by omega)).1]; exact (if_pos (show 0 ≤ x - 10 ∧ x - 10 < τ 36 2 by omega)))
    · refine J_bipush 79 dX9_dayOf_77 rfl (by decide) ?_
      refine J_iload 81 dX9_dayOf_79 rfl rfl ?_
      refine J_isub 82 dX9_dayOf_81 rfl ?_
      refine J_iret dX9_dayOf_82 rfl ?_
      refine ⟨?_, hb⟩
      rw [hR, if_neg (by omega), if_neg (by omega)]
  · refine J_iload 71 dX9_dayOf_69 rfl rfl ?_
    refine J_iret dX9_dayOf_71 rfl ?_
    refine ⟨?_, hb⟩
    rw [hR, if_pos (by omega)]
theorem l_X9_dayOf7 {R : Int} {base : jS} (hb : BDY base τ) (hok : okG τ) (hx : (0 ≤ x ∧ x ≤ 4) ∨ (10 ≤ x ∧ x ≤ 15)) (hy : (y = -9 ∧ b ≤ d) ∨ (0 ≤ y ∧ y ≤ 20)) (hbr : 0 ≤ b ∧ b ≤ 20) (hdr : 0 ≤ d ∧ d ≤ 21) (hR : R = if x = 1 then y else if y = -9 then askM (vR τ) x else -100 - y) : J P 5 (RX9, cX9_dayOf, 9, some .int) 7 [some (vr P 36), some (vi a), some (vi b), some (vi x), some (vi y), some (vi d), none, none, none] [] τ (qi fun z σ' => R = z ∧ BDY base σ') := by
  refine J_iload 9 dX9_dayOf_7 rfl rfl ?_
  refine J_iload_n (i := 2) 10 dX9_dayOf_9 rfl rfl rfl ?_
  refine J_icmp_ge 64 13 dX9_dayOf_10 rfl rfl (fun c1 => ?_) (fun c1 => ?_)
  · exact l_X9_dayOf64 hb hok hx (by omega) hR
  · refine J_iload 15 dX9_dayOf_13 rfl rfl ?_
    refine J_if_ge 64 18 dX9_dayOf_15 rfl rfl (fun c2 => ?_) (fun c2 => ?_)
    · exact l_X9_dayOf64 hb hok hx (by omega) hR
    · exfalso; omega
set_option maxHeartbeats 4000000 in
theorem l_X9_dayOf {base : jS} {N : Nat} (hN : N ≤ 20) (ha : 0 ≤ a ∧ a + 2 * N ≤ 240) (hx : (0 ≤ x ∧ x ≤ 4) ∨ (10 ≤ x ∧ x ≤ 15)) (hn : 0 < base 36 2) (ht : toldN (base 63) a N = true) : ∀ (k p : Nat) (d : Int) (τ : jS), p + k = N → d = p → (dayN (base 63) a v p).1 = -9 → vR τ = (dayN (base 63) a v p).2 → okG τ → BDY base τ → J P 5 (RX9, cX9_dayOf, 9, some .int) 7 [some (vr P 36), some (vi a), some (vi (N : Int)), some (vi x), some (vi (-9)), some (vi d), none, none, none] [] τ (qi fun z σ' => (if x = 1 then (dayN (base 63) a v N).1 else if (dayN (base 63) a v N).1 = -9 then askM (dayN (base 63) a v N).2 x else -100 - (dayN (base 63) a v N).1) = z ∧ BDY base σ') := by
  intro k
  induction k with
  | zero =>
    intro p d τ hp hd h1 h2 hok hb
    rw [Nat.add_zero] at hp
    subst hp
    exact l_X9_dayOf7 hb hok hx (by omega) (by omega) (by omega) (by rw [h1, h2])
  | succ k ih =>
    intro p d τ hp hd h1 h2 hok hb
    subst hd
    have en : τ 36 2 = base 36 2 := hb.2 2 (by omega) (by omega) (by omega)
    have e63 : τ 63 = base 63 := hb.1 63 (by omega)
    have hpr := told_all N ht p (by omega)
    unfold pairF at hpr
    rw [decide_eq_true_iff] at hpr
    have ha16 := mostM_b hpr
    by_cases hk : actOK (vR τ) (base 63 (a + 2 * p + 1)) (base 63 (a + 2 * p)) = true
    · have hD : dayN (base 63) a v (p + 1) = (-9, jup (dayN (base 63) a v p).2 (actI (base 63 (a + 2 * p + 1))) (actJ (base 63 (a + 2 * p + 1))) (base 63 (a + 2 * p))) := by
        rw [h2] at hk
        simp only [dayN]
        rw [if_neg (by omega), if_pos hk]
      refine J_iload 9 dX9_dayOf_7 rfl rfl ?_
      refine J_iload_n (i := 2) 10 dX9_dayOf_9 rfl rfl rfl ?_
      refine J_icmp_ge 64 13 dX9_dayOf_10 rfl rfl (fun c1 => ?_) (fun c1 => ?_)
      · exfalso; omega
      · refine J_iload 15 dX9_dayOf_13 rfl rfl ?_
        refine J_if_ge 64 18 dX9_dayOf_15 rfl rfl (fun c2 => ?_) (fun c2 => ?_)
        · exfalso; omega
        · refine J_aload_n (i := 0) 19 dX9_dayOf_18 rfl rfl rfl ?_
          refine J_aload_n (i := 0) 20 dX9_dayOf_19 rfl rfl rfl ?_
          refine J_getR 23 dX9_dayOf_20 rfl fX9_88 rfl rfl ?_
          refine J_iload_n (i := 1) 24 dX9_dayOf_23 rfl rfl rfl ?_
          refine J_iconst 25 dX9_dayOf_24 rfl ?_
          refine J_iload 27 dX9_dayOf_25 rfl rfl ?_
          refine J_imul 28 dX9_dayOf_27 rfl ?_
          refine J_iadd 29 dX9_dayOf_28 rfl ?_
          refine J_iald (N := 240) (lo := (-2147483648)) (hi := 2147483647) 30 dX9_dayOf_29 rfl rfl rfl rfl (fun b3 b4 => ?_)
          refine J_aload_n (i := 0) 31 dX9_dayOf_30 rfl rfl rfl ?_
          refine J_getR 34 dX9_dayOf_31 rfl fX9_88 rfl rfl ?_
          refine J_iload_n (i := 1) 35 dX9_dayOf_34 rfl rfl rfl ?_
          refine J_iconst 36 dX9_dayOf_35 rfl ?_
          refine J_iload 38 dX9_dayOf_36 rfl rfl ?_
          refine J_imul 39 dX9_dayOf_38 rfl ?_
          refine J_iadd 40 dX9_dayOf_39 rfl ?_
          refine J_iconst 41 dX9_dayOf_40 rfl ?_
          refine J_iadd 42 dX9_dayOf_41 rfl ?_
          refine J_iald (N := 240) (lo := (-2147483648)) (hi := 2147483647) 43 dX9_dayOf_42 rfl rfl rfl rfl (fun b5 b6 => ?_)
          rw [e63]
          refine J_callVi 46 dX9_dayOf_43 rfl kX9_220 mX9_doesPair rfl rfl rfl (c_X9_doesPair (by omega) hpr) (by first | decide | omega) rfl rfl (Nat.le_of_ble_eq_true rfl) (fun z8 s9 h7 => ?_)
          obtain ⟨rfl, rfl⟩ := h7
          refine J.st (if_pos hk) ?_
          refine J_bif_eq 54 49 dX9_dayOf_46 rfl rfl (fun c10 => ?_) (fun c10 => ?_)
          · exact absurd hk (by assumption)
          · refine J_bipush 51 dX9_dayOf_49 rfl (by decide) ?_
            refine J_goto 56 dX9_dayOf_51 rfl ?_
            refine J_istore 58 dX9_dayOf_56 rfl (by decide) ?_
            refine J_iinc 61 dX9_dayOf_58 rfl (by decide) rfl ?_
            refine J_goto 7 dX9_dayOf_61 rfl ?_
            refine ih (p + 1) _ _ (by omega) (by omega) (by rw [hD]) ?_ (okG_act ha16 hok hk) (BDY_trans hb (BDY_act τ ha16))
            rw [vR_act τ ha16, hD, h2]
    · have hD : dayN (base 63) a v (p + 1) = ((p : Int), (dayN (base 63) a v p).2) := by
        rw [h2] at hk
        simp only [dayN]
        rw [if_neg (by omega), if_neg hk]
      have hD2 : dayN (base 63) a v N = ((p : Int), (dayN (base 63) a v p).2) := (dayN_stop (p := p + 1) (by rw [hD]; show ¬ (p : Int) = -9; omega) N (by omega)).trans hD
      refine J_iload 9 dX9_dayOf_7 rfl rfl ?_
      refine J_iload_n (i := 2) 10 dX9_dayOf_9 rfl rfl rfl ?_
      refine J_icmp_ge 64 13 dX9_dayOf_10 rfl rfl (fun c1 => ?_) (fun c1 => ?_)
      · exfalso; omega
      · refine J_iload 15 dX9_dayOf_13 rfl rfl ?_
        refine J_if_ge 64 18 dX9_dayOf_15 rfl rfl (fun c2 => ?_) (fun c2 => ?_)
        · exfalso; omega
        · refine J_aload_n (i := 0) 19 dX9_dayOf_18 rfl rfl rfl ?_
          refine J_aload_n (i := 0) 20 dX9_dayOf_19 rfl rfl rfl ?_
          refine J_getR 23 dX9_dayOf_20 rfl fX9_88 rfl rfl ?_
          refine J_iload_n (i := 1) 24 dX9_dayOf_23 rfl rfl rfl ?_
          refine J_iconst 25 dX9_dayOf_24 rfl ?_
          refine J_iload 27 dX9_dayOf_25 rfl rfl ?_
          refine J_imul 28 dX9_dayOf_27 rfl ?_
          refine J_iadd 29 dX9_dayOf_28 rfl ?_
          refine J_iald (N := 240) (lo := (-2147483648)) (hi := 2147483647) 30 dX9_dayOf_29 rfl rfl rfl rfl (fun b3 b4 => ?_)
          refine J_aload_n (i := 0) 31 dX9_dayOf_30 rfl rfl rfl ?_
          refine J_getR 34 dX9_dayOf_31 rfl fX9_88 rfl rfl ?_
          refine J_iload_n (i := 1) 35 dX9_dayOf_34 rfl rfl rfl ?_
          refine J_iconst 36 dX9_dayOf_35 rfl ?_
          refine J_iload 38 dX9_dayOf_36 rfl rfl ?_
          refine J_imul 39 dX9_dayOf_38 rfl ?_
          refine J_iadd 40 dX9_dayOf_39 rfl ?_
          refine J_iconst 41 dX9_dayOf_40 rfl ?_
          refine J_iadd 42 dX9_dayOf_41 rfl ?_
          refine J_iald (N := 240) (lo := (-2147483648)) (hi := 2147483647) 43 dX9_dayOf_42 rfl rfl rfl rfl (fun b5 b6 => ?_)
          rw [e63]
          refine J_callVi 46 dX9_dayOf_43 rfl kX9_220 mX9_doesPair rfl rfl rfl (c_X9_doesPair (by omega) hpr) (by first | decide | omega) rfl rfl (Nat.le_of_ble_eq_true rfl) (fun z8 s9 h7 => ?_)
          obtain ⟨rfl, rfl⟩ := h7
          refine J.st (if_neg hk) ?_
          refine J_bif_eq 54 49 dX9_dayOf_46 rfl rfl (fun c10 => ?_) (fun c10 => ?_)
          · refine J_iload 56 dX9_dayOf_54 rfl rfl ?_
            refine J_istore 58 dX9_dayOf_56 rfl (by decide) ?_
            refine J_iinc 61 dX9_dayOf_58 rfl (by decide) rfl ?_
            refine J_goto 7 dX9_dayOf_61 rfl ?_
            refine l_X9_dayOf7 hb hok hx (by omega) (by omega) (by omega) ?_
            rw [hD2]
            show (if x = 1 then (p : Int) else if (p : Int) = -9 then _ else -100 - (p : Int)) = _
            rw [if_neg (show ¬ (p : Int) = -9 by omega), if_neg (show ¬ (p : Int) = -9 by omega)]
          · exact absurd (by assumption) hk
theorem c_X9_dayOf {N : Nat} (hN : N ≤ 20) (ha : 0 ≤ a ∧ a + 2 * N ≤ 240) (hx : (0 ≤ x ∧ x ≤ 4) ∨ (10 ≤ x ∧ x ≤ 15)) (hn : 0 < σ 36 2) (ht : toldN (σ 63) a N = true) (hok : okG σ) : Ct P 5 yX9_dayOf cX9_dayOf 9 (some .int) [vr P 36, vi a, vi (N : Int), vi x] σ (qi fun z σ' => (if x = 1 then (dayN (σ 63) a (vR σ) N).1 else if (dayN (σ 63) a (vR σ) N).1 = -9 then askM (dayN (σ 63) a (vR σ) N).2 x else -100 - (dayN (σ 63) a (vR σ) N).1) = z ∧ BDY σ σ') := by
  refine Ct.of _ rfl rfl rfl (Nat.le_of_ble_eq_true rfl) (fun hB => ?_)
  refine J_bipush 2 dX9_dayOf_0 rfl (by decide) ?_
  refine J_istore 4 dX9_dayOf_2 rfl (by decide) ?_
  refine J_iconst 5 dX9_dayOf_4 rfl ?_
  refine J_istore 7 dX9_dayOf_5 rfl (by decide) ?_
  exact l_X9_dayOf hN ha hx hn ht N 0 _ _ (Nat.zero_add _) rfl rfl rfl hok (BDY_refl _)
end

