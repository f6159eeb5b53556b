/-! ===== the reference: what is asked and set ===== -/
theorem ior_assoc (a b c : Int) : ior (ior a b) c = ior a (ior b c) := by
  unfold ior
  rw [Int.toNat_natCast, Int.toNat_natCast, Nat.or_assoc]
def farG (m : Nat) (kn : Int → Int) (d : Int) : Nat → Int → Int → Int
  | 0, _, _ => -9
  | k + 1, s, t => if iand ((s.toNat / 2 ^ d.toNat : Nat) : Int) 1 = 1 then t else farG m kn d k (ior s (orN kn s m)) (t + 1)
def farR (m : Nat) (kn : Int → Int) (c d : Int) : Int := farG m kn d 6 (2 ^ c.toNat) 0
section
variable {P : jP} {w o : Nat} {a b c d g x y z n s i j k l : Int} {σ τ v : jS}
set_option maxHeartbeats 4000000 in
theorem l_X9_crowdsOut (hc : 0 ≤ c ∧ c < 6) : ∀ (k i : Nat) (d r : Int), i + k = (σ 36 2).toNat → d = i → r = setN (fun d => decide ((0 < σ 39 d ∧ σ 50 d = 0) ∧ σ 41 d = σ 41 c ∧ σ 39 c < σ 39 d ∧ 0 < σ 50 c)) i → J P 2 (RX9, cX9_crowdsOut, 5, some .int) 4 [some (vr P 36), some (vi c), some (vi r), some (vi d), none] [] σ (rI (setN (fun d => decide ((0 < σ 39 d ∧ σ 50 d = 0) ∧ σ 41 d = σ 41 c ∧ σ 39 c < σ 39 d ∧ 0 < σ 50 c)) (σ 36 2).toNat) σ) := by
  intro k
  induction k with
  | zero =>
    intro i d r hi hd hr
    refine J.bd (fun hB => ?_)
    have hn : 0 ≤ σ 36 2 ∧ σ 36 2 ≤ 6 := hB 36 2
    have hp : (2:Int) ^ d.toNat ≤ 64 ∧ 0 < (2:Int) ^ d.toNat := pow_64 (by omega)
    have hsb := setN_64 (fun d => decide ((0 < σ 39 d ∧ σ 50 d = 0) ∧ σ 41 d = σ 41 c ∧ σ 39 c < σ 39 d ∧ 0 < σ 50 c)) (n := i) (by omega)
    (
      refine J_iload_n (i := 3) 5 dX9_crowdsOut_4 rfl rfl rfl ?_
      refine J_aload_n (i := 0) 6 dX9_crowdsOut_5 rfl rfl rfl ?_
      refine J_getI (jz := 2) (lo := 0) (hi := 6) 9 dX9_crowdsOut_6 rfl fX9_104 rfl rfl rfl rfl (fun b1 b2 => ?_)
      refine J_icmp_ge 87 12 dX9_crowdsOut_9 rfl rfl (fun c3 => ?_) (fun c3 => ?_)
      · refine J_iload_n (i := 2) 88 dX9_crowdsOut_87 rfl rfl rfl ?_
        refine J_iret dX9_crowdsOut_88 rfl ?_
        refine ⟨?_, rfl⟩
        rw [Nat.add_zero] at hi
        rw [hr, hi]
      · exfalso; omega
    )
  | succ k ih =>
    intro i d r hi hd hr
    refine J.bd (fun hB => ?_)
    have hn : 0 ≤ σ 36 2 ∧ σ 36 2 ≤ 6 := hB 36 2
    have hp : (2:Int) ^ d.toNat ≤ 64 ∧ 0 < (2:Int) ^ d.toNat := pow_64 (by omega)
    have hsb := setN_64 (fun d => decide ((0 < σ 39 d ∧ σ 50 d = 0) ∧ σ 41 d = σ 41 c ∧ σ 39 c < σ 39 d ∧ 0 < σ 50 c)) (n := i) (by omega)
    (
      refine J_iload_n (i := 3) 5 dX9_crowdsOut_4 rfl rfl rfl ?_
      refine J_aload_n (i := 0) 6 dX9_crowdsOut_5 rfl rfl rfl ?_
      refine J_getI (jz := 2) (lo := 0) (hi := 6) 9 dX9_crowdsOut_6 rfl fX9_104 rfl rfl rfl rfl (fun b1 b2 => ?_)
      refine J_icmp_ge 87 12 dX9_crowdsOut_9 rfl rfl (fun c3 => ?_) (fun c3 => ?_)
      · exfalso; omega
      · refine J_aload_n (i := 0) 13 dX9_crowdsOut_12 rfl rfl rfl ?_
        refine J_iload_n (i := 3) 14 dX9_crowdsOut_13 rfl rfl rfl ?_
        refine J_callVi 17 dX9_crowdsOut_14 rfl kX9_177 mX9_goesWithout rfl rfl rfl (c_X9_goesWithout) (by first | decide | omega) rfl rfl (Nat.le_of_ble_eq_true rfl) (fun z5 s6 h4 => ?_)
        obtain ⟨rfl, rfl⟩ := h4
        refine J_bif_eq 63 20 dX9_crowdsOut_17 rfl rfl (fun c7 => ?_) (fun c7 => ?_)
        · refine J_iconst 64 dX9_crowdsOut_63 rfl ?_
          refine J_istore 66 dX9_crowdsOut_64 rfl (by decide) ?_
          refine J_iload_n (i := 2) 67 dX9_crowdsOut_66 rfl rfl rfl ?_
          refine J_iload 69 dX9_crowdsOut_67 rfl rfl ?_
          refine J_if_eq 78 72 dX9_crowdsOut_69 rfl rfl (fun c8 => ?_) (fun c8 => ?_)
          · refine J_iconst 79 dX9_crowdsOut_78 rfl ?_
            refine J_ior 80 dX9_crowdsOut_79 rfl ?_
            refine J_istore_n (i := 2) 81 dX9_crowdsOut_80 rfl rfl (by decide) ?_
            refine J_iinc 84 dX9_crowdsOut_81 rfl (by decide) rfl ?_
            refine J_goto 4 dX9_crowdsOut_84 rfl ?_
            first
              | (exfalso; omega)
              | refine J.wk (ih (i + 1) (d + 1) _ (by omega) (by omega) ?_) ⟨rfl, rfl, rfl, rfl, trivial⟩
            all_goals (
              subst hd hr
              simp only [setN, Int.toNat_natCast, ior_pow (setN_b _ i)]
              split <;> rename_i hf <;> simp only [decide_eq_true_eq] at hf <;> first | rfl | (exfalso; omega) | (rw [ior_0 (by omega)]))
          · refine J_iconst 73 dX9_crowdsOut_72 rfl ?_
            refine J_iload_n (i := 3) 74 dX9_crowdsOut_73 rfl rfl rfl ?_
            refine J_ishl1 75 dX9_crowdsOut_74 rfl ?_
            refine J_goto 79 dX9_crowdsOut_75 rfl ?_
            refine J_ior 80 dX9_crowdsOut_79 rfl ?_
            refine J_istore_n (i := 2) 81 dX9_crowdsOut_80 rfl rfl (by decide) ?_
            refine J_iinc 84 dX9_crowdsOut_81 rfl (by decide) rfl ?_
            refine J_goto 4 dX9_crowdsOut_84 rfl ?_
            first
              | (exfalso; omega)
              | refine J.wk (ih (i + 1) (d + 1) _ (by omega) (by omega) ?_) ⟨rfl, rfl, rfl, rfl, trivial⟩
            all_goals (
              subst hd hr
              simp only [setN, Int.toNat_natCast, ior_pow (setN_b _ i)]
              split <;> rename_i hf <;> simp only [decide_eq_true_eq] at hf <;> first | rfl | (exfalso; omega) | (rw [ior_0 (by omega)]))
        · refine J_aload_n (i := 0) 21 dX9_crowdsOut_20 rfl rfl rfl ?_
          refine J_getR 24 dX9_crowdsOut_21 rfl fX9_22 rfl rfl ?_
          refine J_iload_n (i := 3) 25 dX9_crowdsOut_24 rfl rfl rfl ?_
          refine J_iald (N := 6) (lo := 0) (hi := 2) 26 dX9_crowdsOut_25 rfl rfl rfl rfl (fun b9 b10 => ?_)
          refine J_aload_n (i := 0) 27 dX9_crowdsOut_26 rfl rfl rfl ?_
          refine J_getR 30 dX9_crowdsOut_27 rfl fX9_22 rfl rfl ?_
          refine J_iload_n (i := 1) 31 dX9_crowdsOut_30 rfl rfl rfl ?_
          refine J_iald (N := 6) (lo := 0) (hi := 2) 32 dX9_crowdsOut_31 rfl rfl rfl rfl (fun b11 b12 => ?_)
          refine J_icmp_ne 63 35 dX9_crowdsOut_32 rfl rfl (fun c13 => ?_) (fun c13 => ?_)
          · refine J_iconst 64 dX9_crowdsOut_63 rfl ?_
            refine J_istore 66 dX9_crowdsOut_64 rfl (by decide) ?_
            refine J_iload_n (i := 2) 67 dX9_crowdsOut_66 rfl rfl rfl ?_
            refine J_iload 69 dX9_crowdsOut_67 rfl rfl ?_
            refine J_if_eq 78 72 dX9_crowdsOut_69 rfl rfl (fun c14 => ?_) (fun c14 => ?_)
            · refine J_iconst 79 dX9_crowdsOut_78 rfl ?_
              refine J_ior 80 dX9_crowdsOut_79 rfl ?_
              refine J_istore_n (i := 2) 81 dX9_crowdsOut_80 rfl rfl (by decide) ?_
              refine J_iinc 84 dX9_crowdsOut_81 rfl (by decide) rfl ?_
              refine J_goto 4 dX9_crowdsOut_84 rfl ?_
              first
                | (exfalso; omega)
                | refine J.wk (ih (i + 1) (d + 1) _ (by omega) (by omega) ?_) ⟨rfl, rfl, rfl, rfl, trivial⟩
              all_goals (
                subst hd hr
                simp only [setN, Int.toNat_natCast, ior_pow (setN_b _ i)]
                split <;> rename_i hf <;> simp only [decide_eq_true_eq] at hf <;> first | rfl | (exfalso; omega) | (rw [ior_0 (by omega)]))
            · refine J_iconst 73 dX9_crowdsOut_72 rfl ?_
              refine J_iload_n (i := 3) 74 dX9_crowdsOut_73 rfl rfl rfl ?_
              refine J_ishl1 75 dX9_crowdsOut_74 rfl ?_
              refine J_goto 79 dX9_crowdsOut_75 rfl ?_
              refine J_ior 80 dX9_crowdsOut_79 rfl ?_
              refine J_istore_n (i := 2) 81 dX9_crowdsOut_80 rfl rfl (by decide) ?_
              refine J_iinc 84 dX9_crowdsOut_81 rfl (by decide) rfl ?_
              refine J_goto 4 dX9_crowdsOut_84 rfl ?_
              first
                | (exfalso; omega)
                | refine J.wk (ih (i + 1) (d + 1) _ (by omega) (by omega) ?_) ⟨rfl, rfl, rfl, rfl, trivial⟩
              all_goals (
                subst hd hr
                simp only [setN, Int.toNat_natCast, ior_pow (setN_b _ i)]
                split <;> rename_i hf <;> simp only [decide_eq_true_eq] at hf <;> first | rfl | (exfalso; omega) | (rw [ior_0 (by omega)]))
          · refine J_aload_n (i := 0) 36 dX9_crowdsOut_35 rfl rfl rfl ?_
            refine J_getR 39 dX9_crowdsOut_36 rfl fX9_16 rfl rfl ?_
            refine J_iload_n (i := 3) 40 dX9_crowdsOut_39 rfl rfl rfl ?_
            refine J_iald (N := 6) (lo := 0) (hi := 9) 41 dX9_crowdsOut_40 rfl rfl rfl rfl (fun b15 b16 => ?_)
            refine J_aload_n (i := 0) 42 dX9_crowdsOut_41 rfl rfl rfl ?_
            refine J_getR 45 dX9_crowdsOut_42 rfl fX9_16 rfl rfl ?_
            refine J_iload_n (i := 1) 46 dX9_crowdsOut_45 rfl rfl rfl ?_
            refine J_iald (N := 6) (lo := 0) (hi := 9) 47 dX9_crowdsOut_46 rfl rfl rfl rfl (fun b17 b18 => ?_)
            refine J_icmp_le 63 50 dX9_crowdsOut_47 rfl rfl (fun c19 => ?_) (fun c19 => ?_)
            · refine J_iconst 64 dX9_crowdsOut_63 rfl ?_
              refine J_istore 66 dX9_crowdsOut_64 rfl (by decide) ?_
              refine J_iload_n (i := 2) 67 dX9_crowdsOut_66 rfl rfl rfl ?_
              refine J_iload 69 dX9_crowdsOut_67 rfl rfl ?_
              refine J_if_eq 78 72 dX9_crowdsOut_69 rfl rfl (fun c20 => ?_) (fun c20 => ?_)
              · refine J_iconst 79 dX9_crowdsOut_78 rfl ?_
                refine J_ior 80 dX9_crowdsOut_79 rfl ?_
                refine J_istore_n (i := 2) 81 dX9_crowdsOut_80 rfl rfl (by decide) ?_
                refine J_iinc 84 dX9_crowdsOut_81 rfl (by decide) rfl ?_
                refine J_goto 4 dX9_crowdsOut_84 rfl ?_
                first
                  | (exfalso; omega)
                  | refine J.wk (ih (i + 1) (d + 1) _ (by omega) (by omega) ?_) ⟨rfl, rfl, rfl, rfl, trivial⟩
                all_goals (
                  subst hd hr
                  simp only [setN, Int.toNat_natCast, ior_pow (setN_b _ i)]
                  split <;> rename_i hf <;> simp only [decide_eq_true_eq] at hf <;> first | rfl | (exfalso; omega) | (rw [ior_0 (by omega)]))
              · refine J_iconst 73 dX9_crowdsOut_72 rfl ?_
                refine J_iload_n (i := 3) 74 dX9_crowdsOut_73 rfl rfl rfl ?_
                refine J_ishl1 75 dX9_crowdsOut_74 rfl ?_
                refine J_goto 79 dX9_crowdsOut_75 rfl ?_
                refine J_ior 80 dX9_crowdsOut_79 rfl ?_
                refine J_istore_n (i := 2) 81 dX9_crowdsOut_80 rfl rfl (by decide) ?_
                refine J_iinc 84 dX9_crowdsOut_81 rfl (by decide) rfl ?_
                refine J_goto 4 dX9_crowdsOut_84 rfl ?_
                first
                  | (exfalso; omega)
                  | refine J.wk (ih (i + 1) (d + 1) _ (by omega) (by omega) ?_) ⟨rfl, rfl, rfl, rfl, trivial⟩
                all_goals (
                  subst hd hr
                  simp only [setN, Int.toNat_natCast, ior_pow (setN_b _ i)]
                  split <;> rename_i hf <;> simp only [decide_eq_true_eq] at hf <;> first | rfl | (exfalso; omega) | (rw [ior_0 (by omega)]))
            · refine J_aload_n (i := 0) 51 dX9_crowdsOut_50 rfl rfl rfl ?_
              refine J_getR 54 dX9_crowdsOut_51 rfl fX9_49 rfl rfl ?_
              refine J_iload_n (i := 1) 55 dX9_crowdsOut_54 rfl rfl rfl ?_
              refine J_iald (N := 6) (lo := 0) (hi := 9) 56 dX9_crowdsOut_55 rfl rfl rfl rfl (fun b21 b22 => ?_)
              refine J_if_le 63 59 dX9_crowdsOut_56 rfl rfl (fun c23 => ?_) (fun c23 => ?_)
              · refine J_iconst 64 dX9_crowdsOut_63 rfl ?_
                refine J_istore 66 dX9_crowdsOut_64 rfl (by decide) ?_
                refine J_iload_n (i := 2) 67 dX9_crowdsOut_66 rfl rfl rfl ?_
                refine J_iload 69 dX9_crowdsOut_67 rfl rfl ?_
                refine J_if_eq 78 72 dX9_crowdsOut_69 rfl rfl (fun c24 => ?_) (fun c24 => ?_)
                · refine J_iconst 79 dX9_crowdsOut_78 rfl ?_
                  refine J_ior 80 dX9_crowdsOut_79 rfl ?_
                  refine J_istore_n (i := 2) 81 dX9_crowdsOut_80 rfl rfl (by decide) ?_
                  refine J_iinc 84 dX9_crowdsOut_81 rfl (by decide) rfl ?_
                  refine J_goto 4 dX9_crowdsOut_84 rfl ?_
                  first
                    | (exfalso; omega)
                    | refine J.wk (ih (i + 1) (d + 1) _ (by omega) (by omega) ?_) ⟨rfl, rfl, rfl, rfl, trivial⟩
                  all_goals (
                    subst hd hr
                    simp only [setN, Int.toNat_natCast, ior_pow (setN_b _ i)]
                    split <;> rename_i hf <;> simp only [decide_eq_true_eq] at hf <;> first | rfl | (exfalso; omega) | (rw [ior_0 (by omega)]))
                · refine J_iconst 73 dX9_crowdsOut_72 rfl ?_
                  refine J_iload_n (i := 3) 74 dX9_crowdsOut_73 rfl rfl rfl ?_
                  refine J_ishl1 75 dX9_crowdsOut_74 rfl ?_
                  refine J_goto 79 dX9_crowdsOut_75 rfl ?_
                  refine J_ior 80 dX9_crowdsOut_79 rfl ?_
                  refine J_istore_n (i := 2) 81 dX9_crowdsOut_80 rfl rfl (by decide) ?_
                  refine J_iinc 84 dX9_crowdsOut_81 rfl (by decide) rfl ?_
                  refine J_goto 4 dX9_crowdsOut_84 rfl ?_
                  first
                    | (exfalso; omega)
                    | refine J.wk (ih (i + 1) (d + 1) _ (by omega) (by omega) ?_) ⟨rfl, rfl, rfl, rfl, trivial⟩
                  all_goals (
                    subst hd hr
                    simp only [setN, Int.toNat_natCast, ior_pow (setN_b _ i)]
                    split <;> rename_i hf <;> simp only [decide_eq_true_eq] at hf <;> first | rfl | (exfalso; omega) | (rw [ior_0 (by omega)]))
              · refine J_iconst 60 dX9_crowdsOut_59 rfl ?_
                refine J_goto 64 dX9_crowdsOut_60 rfl ?_
                refine J_istore 66 dX9_crowdsOut_64 rfl (by decide) ?_
                refine J_iload_n (i := 2) 67 dX9_crowdsOut_66 rfl rfl rfl ?_
                refine J_iload 69 dX9_crowdsOut_67 rfl rfl ?_
                refine J_if_eq 78 72 dX9_crowdsOut_69 rfl rfl (fun c25 => ?_) (fun c25 => ?_)
                · refine J_iconst 79 dX9_crowdsOut_78 rfl ?_
                  refine J_ior 80 dX9_crowdsOut_79 rfl ?_
                  refine J_istore_n (i := 2) 81 dX9_crowdsOut_80 rfl rfl (by decide) ?_
                  refine J_iinc 84 dX9_crowdsOut_81 rfl (by decide) rfl ?_
                  refine J_goto 4 dX9_crowdsOut_84 rfl ?_
                  first
                    | (exfalso; omega)
                    | refine J.wk (ih (i + 1) (d + 1) _ (by omega) (by omega) ?_) ⟨rfl, rfl, rfl, rfl, trivial⟩
                  all_goals (
                    subst hd hr
                    simp only [setN, Int.toNat_natCast, ior_pow (setN_b _ i)]
                    split <;> rename_i hf <;> simp only [decide_eq_true_eq] at hf <;> first | rfl | (exfalso; omega) | (rw [ior_0 (by omega)]))
                · refine J_iconst 73 dX9_crowdsOut_72 rfl ?_
                  refine J_iload_n (i := 3) 74 dX9_crowdsOut_73 rfl rfl rfl ?_
                  refine J_ishl1 75 dX9_crowdsOut_74 rfl ?_
                  refine J_goto 79 dX9_crowdsOut_75 rfl ?_
                  refine J_ior 80 dX9_crowdsOut_79 rfl ?_
                  refine J_istore_n (i := 2) 81 dX9_crowdsOut_80 rfl rfl (by decide) ?_
                  refine J_iinc 84 dX9_crowdsOut_81 rfl (by decide) rfl ?_
                  refine J_goto 4 dX9_crowdsOut_84 rfl ?_
                  first
                    | (exfalso; omega)
                    | refine J.wk (ih (i + 1) (d + 1) _ (by omega) (by omega) ?_) ⟨rfl, rfl, rfl, rfl, trivial⟩
                  all_goals (
                    subst hd hr
                    simp only [setN, Int.toNat_natCast, ior_pow (setN_b _ i)]
                    split <;> rename_i hf <;> simp only [decide_eq_true_eq] at hf <;> first | rfl | (exfalso; omega) | (rw [ior_0 (by omega)]))
    )
theorem c_X9_crowdsOut (hc : 0 ≤ c ∧ c < 6 := by omega) : Ct P 2 yX9_crowdsOut cX9_crowdsOut 5 (some .int) [vr P 36, vi c] σ (rI (setN (fun d => decide ((0 < σ 39 d ∧ σ 50 d = 0) ∧ σ 41 d = σ 41 c ∧ σ 39 c < σ 39 d ∧ 0 < σ 50 c)) (σ 36 2).toNat) σ) := by
  (
    refine Ct.of _ rfl rfl rfl (Nat.le_of_ble_eq_true rfl) (fun hB => ?_)
    refine J_iconst 1 dX9_crowdsOut_0 rfl ?_
    refine J_istore_n (i := 2) 2 dX9_crowdsOut_1 rfl rfl (by decide) ?_
    refine J_iconst 3 dX9_crowdsOut_2 rfl ?_
    refine J_istore_n (i := 3) 4 dX9_crowdsOut_3 rfl rfl (by decide) ?_
    exact l_X9_crowdsOut hc _ 0 _ _ (Nat.zero_add _) rfl rfl
  )
theorem G_rows {σ τ : jS} (h : G3 σ τ) : τ 36 = σ 36 ∧ τ 37 = σ 37 ∧ τ 38 = σ 38 ∧ τ 39 = σ 39 ∧ τ 40 = σ 40 ∧ τ 41 = σ 41 ∧ τ 42 = σ 42 := ⟨h 36 (by omega) (by omega) (by omega), h 37 (by omega) (by omega) (by omega), h 38 (by omega) (by omega) (by omega), h 39 (by omega) (by omega) (by omega), h 40 (by omega) (by omega) (by omega), h 41 (by omega) (by omega) (by omega), h 42 (by omega) (by omega) (by omega)⟩
theorem who_eq {σ τ : jS} (hB : jBd σ) (h : givQ σ τ) : setN (fun c => decide (0 < τ 39 c ∧ τ 50 c = 0)) (τ 36 2).toNat = starvM (vR σ) := by
  obtain ⟨h1, h2, h3⟩ := h
  have hr := G_rows h1
  have hn : 0 ≤ σ 36 2 ∧ σ 36 2 ≤ 6 := hB 36 2
  rw [hr.1, hr.2.2.2.1]
  unfold starvM
  refine setN_congr _ (fun c g1 g2 => ?_)
  have e2 : nM (vR σ) = (σ 36 2).toNat := rfl
  show decide (0 < σ 39 c ∧ τ 50 c = 0) = outM (vR σ) c
  rw [(h2 c g1 (by omega)).1]
  rfl
theorem crowd_eq {σ τ : jS} (hB : jBd σ) (h : givQ σ τ) {c : Int} (hc : 0 ≤ c ∧ c < σ 36 2) : setN (fun d => decide ((0 < τ 39 d ∧ τ 50 d = 0) ∧ τ 41 d = τ 41 c ∧ τ 39 c < τ 39 d ∧ 0 < τ 50 c)) (τ 36 2).toNat = crowdM (vR σ) c := by
  obtain ⟨h1, h2, h3⟩ := h
  have hr := G_rows h1
  have hn : 0 ≤ σ 36 2 ∧ σ 36 2 ≤ 6 := hB 36 2
  have e2 : nM (vR σ) = (σ 36 2).toNat := rfl
  rw [hr.1, hr.2.2.2.1, hr.2.2.2.2.2.1]
  have hcE := (h2 c hc.1 hc.2).1
  unfold crowdM
  by_cases e : 0 < eatsM (vR σ) c
  · rw [if_pos e]
    refine setN_congr _ (fun d g1 g2 => ?_)
    have hd := (h2 d g1 (by omega)).1
    show decide ((0 < σ 39 d ∧ τ 50 d = 0) ∧ σ 41 d = σ 41 c ∧ σ 39 c < σ 39 d ∧ 0 < τ 50 c) = (outM (vR σ) d && decide (σ 41 d = σ 41 c) && decide (σ 39 c < σ 39 d))
    have e3 : outM (vR σ) d = decide (0 < σ 39 d ∧ eatsM (vR σ) d = 0) := rfl
    rw [hd, hcE, e3, ← Bool.decide_and, ← Bool.decide_and]
    exact decide_eq_decide.mpr ⟨fun q => ⟨⟨q.1, q.2.1⟩, q.2.2.1⟩, fun q => ⟨q.1.1, q.1.2, q.2, e⟩⟩
  · rw [if_neg e, setN_congr (g := fun _ => false) _ (fun d g1 g2 => by
      rw [hcE]
      exact decide_eq_false (fun q => e q.2.2.2))]
    have : ∀ n : Nat, setN (fun _ => false) n = 0 := fun n => by
      induction n with
      | zero => rfl
      | succ n ih => simp only [setN]; rw [if_neg (by simp), ih]
    exact this _
set_option maxHeartbeats 8000000 in
theorem c_X9_ofComer (hok : okG σ) (hc : inR c) (hx : inR x) : Ct P 5 yX9_ofComer cX9_ofComer 3 (some .int) [vr P 36, vi c, vi x] σ (qi fun z σ' => aOfComer (σ 36 2) (vR σ) c x = z ∧ G3 σ σ') := by
  refine Ct.bd (fun hB => ?_)
  have hn : 0 ≤ σ 36 2 ∧ σ 36 2 ≤ 6 := hB 36 2
  refine Ct.of _ rfl rfl rfl (Nat.le_of_ble_eq_true rfl) (fun hB => ?_)
  refine J_aload_n (i := 0) 1 dX9_ofComer_0 rfl rfl rfl ?_
  refine J_iload_n (i := 1) 2 dX9_ofComer_1 rfl rfl rfl ?_
  refine J_callVi 5 dX9_ofComer_2 rfl kX9_180 mX9_noComer rfl rfl rfl (c_X9_noComer) (by first | decide | omega) rfl rfl (Nat.le_of_ble_eq_true rfl) (fun z2 s3 h1 => ?_)
  obtain ⟨rfl, rfl⟩ := h1
  refine J_bif_eq 10 8 dX9_ofComer_5 rfl rfl (fun c4 => ?_) (fun c4 => ?_)
  · refine J_aload_n (i := 0) 11 dX9_ofComer_10 rfl rfl rfl ?_
    refine J_callVv 14 dX9_ofComer_11 rfl kX9_183 mX9_gives rfl rfl rfl (c_X9_gives hok) (by first | decide | omega) rfl rfl (Nat.le_of_ble_eq_true rfl) (fun s7 h5 => ?_)
    have hG := h5
    have hr := G_rows hG.1
    have hE := hG.2.1 c (by omega) (by omega)
    have hrk : 0 ≤ c ∧ c < 6 := by omega
    refine J_iload_n (i := 2) 15 dX9_ofComer_14 rfl rfl rfl ?_
    rcases (show x = 0 ∨ x = 1 ∨ x = 2 ∨ x = 3 ∨ x = 4 ∨ x = 5 ∨ x = 6 ∨ x = 7 ∨ x = 8 ∨ x = 9 ∨ (x < 0 ∨ 9 < x) by omega) with rfl | rfl | rfl | rfl | rfl | rfl | rfl | rfl | rfl | rfl | hx2
    · refine J_tableIn 68 dX9_ofComer_15 rfl rfl ?_
      refine J_aload_n (i := 0) 69 dX9_ofComer_68 rfl rfl rfl ?_
      refine J_getR 72 dX9_ofComer_69 rfl fX9_13 rfl rfl ?_
      refine J_iload_n (i := 1) 73 dX9_ofComer_72 rfl rfl rfl ?_
      refine J_iald (N := 6) (lo := 0) (hi := 2) 74 dX9_ofComer_73 rfl rfl rfl rfl (fun b8 b9 => ?_)
      refine J_iret dX9_ofComer_74 rfl ?_
      refine ⟨?_, hG.1⟩
      unfold aOfComer
      rw [if_neg (by omega), hr.2.2.1]
      rfl
    · refine J_tableIn 75 dX9_ofComer_15 rfl rfl ?_
      refine J_aload_n (i := 0) 76 dX9_ofComer_75 rfl rfl rfl ?_
      refine J_getR 79 dX9_ofComer_76 rfl fX9_16 rfl rfl ?_
      refine J_iload_n (i := 1) 80 dX9_ofComer_79 rfl rfl rfl ?_
      refine J_iald (N := 6) (lo := 0) (hi := 9) 81 dX9_ofComer_80 rfl rfl rfl rfl (fun b10 b11 => ?_)
      refine J_iret dX9_ofComer_81 rfl ?_
      refine ⟨?_, hG.1⟩
      unfold aOfComer
      rw [if_neg (by omega), hr.2.2.2.1]
      rfl
    · refine J_tableIn 82 dX9_ofComer_15 rfl rfl ?_
      refine J_aload_n (i := 0) 83 dX9_ofComer_82 rfl rfl rfl ?_
      refine J_getR 86 dX9_ofComer_83 rfl fX9_19 rfl rfl ?_
      refine J_iload_n (i := 1) 87 dX9_ofComer_86 rfl rfl rfl ?_
      refine J_iald (N := 6) (lo := 0) (hi := 9) 88 dX9_ofComer_87 rfl rfl rfl rfl (fun b12 b13 => ?_)
      refine J_iret dX9_ofComer_88 rfl ?_
      refine ⟨?_, hG.1⟩
      unfold aOfComer
      rw [if_neg (by omega), hr.2.2.2.2.1]
      rfl
    · refine J_tableIn 89 dX9_ofComer_15 rfl rfl ?_
      refine J_aload_n (i := 0) 90 dX9_ofComer_89 rfl rfl rfl ?_
      refine J_getR 93 dX9_ofComer_90 rfl fX9_22 rfl rfl ?_
      refine J_iload_n (i := 1) 94 dX9_ofComer_93 rfl rfl rfl ?_
      refine J_iald (N := 6) (lo := 0) (hi := 2) 95 dX9_ofComer_94 rfl rfl rfl rfl (fun b14 b15 => ?_)
      refine J_iret dX9_ofComer_95 rfl ?_
      refine ⟨?_, hG.1⟩
      unfold aOfComer
      rw [if_neg (by omega), hr.2.2.2.2.2.1]
      rfl
    · refine J_tableIn 96 dX9_ofComer_15 rfl rfl ?_
      refine J_aload_n (i := 0) 97 dX9_ofComer_96 rfl rfl rfl ?_
      refine J_getR 100 dX9_ofComer_97 rfl fX9_25 rfl rfl ?_
      refine J_iload_n (i := 1) 101 dX9_ofComer_100 rfl rfl rfl ?_
      refine J_iald (N := 6) (lo := 0) (hi := 9) 102 dX9_ofComer_101 rfl rfl rfl rfl (fun b16 b17 => ?_)
      refine J_iret dX9_ofComer_102 rfl ?_
      refine ⟨?_, hG.1⟩
      unfold aOfComer
      rw [if_neg (by omega), hr.2.2.2.2.2.2]
      rfl
    · refine J_tableIn 103 dX9_ofComer_15 rfl rfl ?_
      refine J_aload_n (i := 0) 104 dX9_ofComer_103 rfl rfl rfl ?_
      refine J_iload_n (i := 1) 105 dX9_ofComer_104 rfl rfl rfl ?_
      refine J_callVi 108 dX9_ofComer_105 rfl kX9_171 mX9_look rfl rfl rfl (c_X9_look) (by first | decide | omega) rfl rfl (Nat.le_of_ble_eq_true rfl) (fun z19 s20 h18 => ?_)
      obtain ⟨rfl, rfl⟩ := h18
      rw [vR_G3 hG.1]
      refine J_iret dX9_ofComer_108 rfl ?_
      refine ⟨?_, hG.1⟩
      unfold aOfComer
      rw [if_neg (by omega)]
      rfl
    · refine J_tableIn 109 dX9_ofComer_15 rfl rfl ?_
      refine J_aload_n (i := 0) 110 dX9_ofComer_109 rfl rfl rfl ?_
      refine J_getR 113 dX9_ofComer_110 rfl fX9_49 rfl rfl ?_
      refine J_iload_n (i := 1) 114 dX9_ofComer_113 rfl rfl rfl ?_
      refine J_iald (N := 6) (lo := 0) (hi := 9) 115 dX9_ofComer_114 rfl rfl rfl rfl (fun b21 b22 => ?_)
      refine J_iret dX9_ofComer_115 rfl ?_
      refine ⟨?_, hG.1⟩
      unfold aOfComer
      rw [if_neg (by omega), hE.1]
      rfl
    · refine J_tableIn 116 dX9_ofComer_15 rfl rfl ?_
      refine J_aload_n (i := 0) 117 dX9_ofComer_116 rfl rfl rfl ?_
      refine J_iload_n (i := 1) 118 dX9_ofComer_117 rfl rfl rfl ?_
      refine J_callVi 121 dX9_ofComer_118 rfl kX9_177 mX9_goesWithout rfl rfl rfl (c_X9_goesWithout) (by first | decide | omega) rfl rfl (Nat.le_of_ble_eq_true rfl) (fun z24 s25 h23 => ?_)
      obtain ⟨rfl, rfl⟩ := h23
      refine J_bif_eq 128 124 dX9_ofComer_121 rfl rfl (fun c26 => ?_) (fun c26 => ?_)
      · refine J_iconst 129 dX9_ofComer_128 rfl ?_
        refine J_iret dX9_ofComer_129 rfl ?_
        refine ⟨?_, hG.1⟩
        unfold aOfComer
        rw [if_neg (by omega)]
        show (if outM (vR σ) c = true then (1 : Int) else 0) = _
        have ho : outM (vR σ) c = true ↔ (0 < σ 39 c ∧ eatsM (vR σ) c = 0) := decide_eq_true_iff
        rw [← hE.1, ← hr.2.2.2.1] at ho
        first | (rw [if_pos (ho.mpr (by assumption))]; done) | (rw [if_neg (fun q => absurd (ho.mp q) (by assumption))]; done)
      · refine J_iconst 125 dX9_ofComer_124 rfl ?_
        refine J_goto 129 dX9_ofComer_125 rfl ?_
        refine J_iret dX9_ofComer_129 rfl ?_
        refine ⟨?_, hG.1⟩
        unfold aOfComer
        rw [if_neg (by omega)]
        show (if outM (vR σ) c = true then (1 : Int) else 0) = _
        have ho : outM (vR σ) c = true ↔ (0 < σ 39 c ∧ eatsM (vR σ) c = 0) := decide_eq_true_iff
        rw [← hE.1, ← hr.2.2.2.1] at ho
        first | (rw [if_pos (ho.mpr (by assumption))]; done) | (rw [if_neg (fun q => absurd (ho.mp q) (by assumption))]; done)
    · refine J_tableIn 130 dX9_ofComer_15 rfl rfl ?_
      refine J_aload_n (i := 0) 131 dX9_ofComer_130 rfl rfl rfl ?_
      refine J_iload_n (i := 1) 132 dX9_ofComer_131 rfl rfl rfl ?_
      refine J_callVi 135 dX9_ofComer_132 rfl kX9_186 mX9_crowdsOut rfl rfl rfl (c_X9_crowdsOut) (by first | decide | omega) rfl rfl (Nat.le_of_ble_eq_true rfl) (fun z28 s29 h27 => ?_)
      obtain ⟨rfl, rfl⟩ := h27
      rw [crowd_eq hB hG (by omega)]
      refine J_iret dX9_ofComer_135 rfl ?_
      refine ⟨?_, hG.1⟩
      unfold aOfComer
      rw [if_neg (by omega)]
      rfl
    · refine J_tableIn 136 dX9_ofComer_15 rfl rfl ?_
      refine J_aload_n (i := 0) 137 dX9_ofComer_136 rfl rfl rfl ?_
      refine J_getR 140 dX9_ofComer_137 rfl fX9_52 rfl rfl ?_
      refine J_iload_n (i := 1) 141 dX9_ofComer_140 rfl rfl rfl ?_
      refine J_iald (N := 6) (lo := 0) (hi := 6) 142 dX9_ofComer_141 rfl rfl rfl rfl (fun b30 b31 => ?_)
      refine J_iret dX9_ofComer_142 rfl ?_
      refine ⟨?_, hG.1⟩
      unfold aOfComer
      rw [if_neg (by omega), hE.2]
      rfl
    · refine J_tableOut 143 dX9_ofComer_15 rfl ?_
      refine J_bipush 145 dX9_ofComer_143 rfl (by decide) ?_
      refine J_iret dX9_ofComer_145 rfl ?_
      refine ⟨?_, hG.1⟩
      unfold aOfComer
      rw [if_neg (by omega), if_neg (by omega), if_neg (by omega), if_neg (by omega), if_neg (by omega), if_neg (by omega), if_neg (by omega), if_neg (by omega), if_neg (by omega), if_neg (by omega), if_neg (by omega)]
  · refine J_iconst 9 dX9_ofComer_8 rfl ?_
    refine J_iret dX9_ofComer_9 rfl ?_
    exact ⟨if_pos (by omega), fun _ _ _ _ => rfl⟩
def atI (σ : jS) (g : Int) (i : Nat) : Int := setN (fun c => decide (σ 41 c = g)) i
set_option maxHeartbeats 8000000 in
theorem l_X9_ofGate (hB0 : jBd σ) (hG : givQ σ τ) (hc : 0 ≤ c ∧ c < σ 36 1) (hx : inR x) : ∀ (k i : Nat) (d r : Int), i + k = (σ 36 2).toNat → d = i → r = atI σ c i → J P 5 (RX9, cX9_ofGate, 5, some .int) 19 [some (vr P 36), some (vi c), some (vi x), some (vi r), some (vi d)] [] τ (qi fun z σ' => aOfGate (σ 36 1) (vR σ) c x = z ∧ G3 σ σ') := by
  have hr := G_rows hG.1
  have hn : 0 ≤ σ 36 2 ∧ σ 36 2 ≤ 6 := hB0 36 2
  have hg : 0 ≤ σ 36 1 ∧ σ 36 1 ≤ 3 := hB0 36 1
  have hvB := vR_B hB0
  intro k
  induction k with
  | zero =>
    intro i d r hi hd hr0
    have hab := atM_b hvB c
    have hsb := starvM_b hvB
    have hrr : r = atM (vR σ) c := by
      rw [Nat.add_zero] at hi
      rw [hr0, hi]
      rfl
    have e36 : τ 36 2 = σ 36 2 := by rw [hr.1]
    refine J_iload 21 dX9_ofGate_19 rfl rfl ?_
    refine J_aload_n (i := 0) 22 dX9_ofGate_21 rfl rfl rfl ?_
    refine J_getI (jz := 2) (lo := 0) (hi := 6) 25 dX9_ofGate_22 rfl fX9_104 rfl rfl rfl rfl (fun b1 b2 => ?_)
    refine J_icmp_ge 56 28 dX9_ofGate_25 rfl rfl (fun c3 => ?_) (fun c3 => ?_)
    · refine J_iload_n (i := 2) 57 dX9_ofGate_56 rfl rfl rfl ?_
      refine J_if_ne 69 60 dX9_ofGate_57 rfl rfl (fun c4 => ?_) (fun c4 => ?_)
      · refine J_iload_n (i := 2) 70 dX9_ofGate_69 rfl rfl rfl ?_
        refine J_iconst 71 dX9_ofGate_70 rfl ?_
        refine J_icmp_ne 78 74 dX9_ofGate_71 rfl rfl (fun c5 => ?_) (fun c5 => ?_)
        · refine J_iload_n (i := 2) 79 dX9_ofGate_78 rfl rfl rfl ?_
          refine J_iconst 80 dX9_ofGate_79 rfl ?_
          refine J_icmp_ne 92 83 dX9_ofGate_80 rfl rfl (fun c6 => ?_) (fun c6 => ?_)
          · refine J_iload_n (i := 2) 93 dX9_ofGate_92 rfl rfl rfl ?_
            refine J_iconst 94 dX9_ofGate_93 rfl ?_
            refine J_icmp_ne 106 97 dX9_ofGate_94 rfl rfl (fun c7 => ?_) (fun c7 => ?_)
            · refine J_bipush 108 dX9_ofGate_106 rfl (by decide) ?_
              refine J_iret dX9_ofGate_108 rfl ?_
              refine ⟨?_, hG.1⟩
              unfold aOfGate
              rw [if_neg (by omega)]
              first
                | (rw [if_pos (by omega), hr.2.1]; rfl)
                | (rw [if_neg (by omega), if_pos (by omega), hrr]; done)
                | (rw [if_neg (by omega), if_neg (by omega), if_pos (by omega), hG.2.2 c hc.1 hc.2]; done)
                | (rw [if_neg (by omega), if_neg (by omega), if_neg (by omega), if_pos (by omega), hrr, ← setN_and]; unfold iand; rw [Nat.and_comm]; rfl)
                | (rw [if_neg (by omega), if_neg (by omega), if_neg (by omega), if_neg (by omega)]; done)
            · refine J_iload_n (i := 3) 98 dX9_ofGate_97 rfl rfl rfl ?_
              refine J_aload_n (i := 0) 99 dX9_ofGate_98 rfl rfl rfl ?_
              refine J_callVi 102 dX9_ofGate_99 rfl kX9_192 mX9_whoGoWithout rfl rfl rfl (c_X9_whoGoWithout) (by first | decide | omega) rfl rfl (Nat.le_of_ble_eq_true rfl) (fun z9 s10 h8 => ?_)
              obtain ⟨rfl, rfl⟩ := h8
              rw [who_eq hB0 hG]
              refine J_iand 103 dX9_ofGate_102 rfl ?_
              refine J_goto 108 dX9_ofGate_103 rfl ?_
              refine J_iret dX9_ofGate_108 rfl ?_
              refine ⟨?_, hG.1⟩
              unfold aOfGate
              rw [if_neg (by omega)]
              first
                | (rw [if_pos (by omega), hr.2.1]; rfl)
                | (rw [if_neg (by omega), if_pos (by omega), hrr]; done)
                | (rw [if_neg (by omega), if_neg (by omega), if_pos (by omega), hG.2.2 c hc.1 hc.2]; done)
                | (rw [if_neg (by omega), if_neg (by omega), if_neg (by omega), if_pos (by omega), hrr, ← setN_and]; unfold iand; rw [Nat.and_comm]; rfl)
                | (rw [if_neg (by omega), if_neg (by omega), if_neg (by omega), if_neg (by omega)]; done)
          · refine J_aload_n (i := 0) 84 dX9_ofGate_83 rfl rfl rfl ?_
            refine J_getR 87 dX9_ofGate_84 rfl fX9_55 rfl rfl ?_
            refine J_iload_n (i := 1) 88 dX9_ofGate_87 rfl rfl rfl ?_
            refine J_iald (N := 3) (lo := (-99)) (hi := 9) 89 dX9_ofGate_88 rfl rfl rfl rfl (fun b11 b12 => ?_)
            refine J_goto 108 dX9_ofGate_89 rfl ?_
            refine J_iret dX9_ofGate_108 rfl ?_
            refine ⟨?_, hG.1⟩
            unfold aOfGate
            rw [if_neg (by omega)]
            first
              | (rw [if_pos (by omega), hr.2.1]; rfl)
              | (rw [if_neg (by omega), if_pos (by omega), hrr]; done)
              | (rw [if_neg (by omega), if_neg (by omega), if_pos (by omega), hG.2.2 c hc.1 hc.2]; done)
              | (rw [if_neg (by omega), if_neg (by omega), if_neg (by omega), if_pos (by omega), hrr, ← setN_and]; unfold iand; rw [Nat.and_comm]; rfl)
              | (rw [if_neg (by omega), if_neg (by omega), if_neg (by omega), if_neg (by omega)]; done)
        · refine J_iload_n (i := 3) 75 dX9_ofGate_74 rfl rfl rfl ?_
          refine J_goto 108 dX9_ofGate_75 rfl ?_
          refine J_iret dX9_ofGate_108 rfl ?_
          refine ⟨?_, hG.1⟩
          unfold aOfGate
          rw [if_neg (by omega)]
          first
            | (rw [if_pos (by omega), hr.2.1]; rfl)
            | (rw [if_neg (by omega), if_pos (by omega), hrr]; done)
            | (rw [if_neg (by omega), if_neg (by omega), if_pos (by omega), hG.2.2 c hc.1 hc.2]; done)
            | (rw [if_neg (by omega), if_neg (by omega), if_neg (by omega), if_pos (by omega), hrr, ← setN_and]; unfold iand; rw [Nat.and_comm]; rfl)
            | (rw [if_neg (by omega), if_neg (by omega), if_neg (by omega), if_neg (by omega)]; done)
      · refine J_aload_n (i := 0) 61 dX9_ofGate_60 rfl rfl rfl ?_
        refine J_getR 64 dX9_ofGate_61 rfl fX9_7 rfl rfl ?_
        refine J_iload_n (i := 1) 65 dX9_ofGate_64 rfl rfl rfl ?_
        refine J_iald (N := 3) (lo := 0) (hi := 9) 66 dX9_ofGate_65 rfl rfl rfl rfl (fun b13 b14 => ?_)
        refine J_goto 108 dX9_ofGate_66 rfl ?_
        refine J_iret dX9_ofGate_108 rfl ?_
        refine ⟨?_, hG.1⟩
        unfold aOfGate
        rw [if_neg (by omega)]
        first
          | (rw [if_pos (by omega), hr.2.1]; rfl)
          | (rw [if_neg (by omega), if_pos (by omega), hrr]; done)
          | (rw [if_neg (by omega), if_neg (by omega), if_pos (by omega), hG.2.2 c hc.1 hc.2]; done)
          | (rw [if_neg (by omega), if_neg (by omega), if_neg (by omega), if_pos (by omega), hrr, ← setN_and]; unfold iand; rw [Nat.and_comm]; rfl)
          | (rw [if_neg (by omega), if_neg (by omega), if_neg (by omega), if_neg (by omega)]; done)
    · exfalso; omega
  | succ k ih =>
    intro i d r hi hd hr0
    have hp : (2:Int) ^ d.toNat ≤ 64 ∧ 0 < (2:Int) ^ d.toNat := pow_64 (by omega)
    have hsb := setN_64 (fun q => decide (σ 41 q = c)) (n := i) (by omega)
    have hr1 : r = setN (fun q => decide (σ 41 q = c)) i := hr0
    have e36 : τ 36 2 = σ 36 2 := by rw [hr.1]
    have hst : atI σ c (i + 1) = if τ 41 d = c then ior r (2 ^ d.toNat) else ior r 0 := by
      rw [hr.2.2.2.2.2.1, hr1, hd, Int.toNat_natCast, ior_pow (setN_b _ i), ior_0 (by omega)]
      show (if decide (σ 41 (i : Int) = c) = true then _ else _) = _
      by_cases e : σ 41 (i : Int) = c
      · rw [if_pos (decide_eq_true e), if_pos e]
      · rw [if_neg (by simp [e]), if_neg e]
    refine J_iload 21 dX9_ofGate_19 rfl rfl ?_
    refine J_aload_n (i := 0) 22 dX9_ofGate_21 rfl rfl rfl ?_
    refine J_getI (jz := 2) (lo := 0) (hi := 6) 25 dX9_ofGate_22 rfl fX9_104 rfl rfl rfl rfl (fun b1 b2 => ?_)
    refine J_icmp_ge 56 28 dX9_ofGate_25 rfl rfl (fun c3 => ?_) (fun c3 => ?_)
    · exfalso; omega
    · refine J_iload_n (i := 3) 29 dX9_ofGate_28 rfl rfl rfl ?_
      refine J_aload_n (i := 0) 30 dX9_ofGate_29 rfl rfl rfl ?_
      refine J_getR 33 dX9_ofGate_30 rfl fX9_22 rfl rfl ?_
      refine J_iload 35 dX9_ofGate_33 rfl rfl ?_
      refine J_iald (N := 6) (lo := 0) (hi := 2) 36 dX9_ofGate_35 rfl rfl rfl rfl (fun b4 b5 => ?_)
      refine J_iload_n (i := 1) 37 dX9_ofGate_36 rfl rfl rfl ?_
      refine J_icmp_ne 47 40 dX9_ofGate_37 rfl rfl (fun c6 => ?_) (fun c6 => ?_)
      · refine J_iconst 48 dX9_ofGate_47 rfl ?_
        refine J_ior 49 dX9_ofGate_48 rfl ?_
        refine J_istore_n (i := 3) 50 dX9_ofGate_49 rfl rfl (by decide) ?_
        refine J_iinc 53 dX9_ofGate_50 rfl (by decide) rfl ?_
        refine J_goto 19 dX9_ofGate_53 rfl ?_
        refine ih (i + 1) (d + 1) _ (by omega) (by omega) ?_
        rw [hst]
        first | (rw [if_pos (by assumption)]; done) | (rw [if_neg (by assumption)]; done)
      · refine J_iconst 41 dX9_ofGate_40 rfl ?_
        refine J_iload 43 dX9_ofGate_41 rfl rfl ?_
        refine J_ishl1 44 dX9_ofGate_43 rfl ?_
        refine J_goto 48 dX9_ofGate_44 rfl ?_
        refine J_ior 49 dX9_ofGate_48 rfl ?_
        refine J_istore_n (i := 3) 50 dX9_ofGate_49 rfl rfl (by decide) ?_
        refine J_iinc 53 dX9_ofGate_50 rfl (by decide) rfl ?_
        refine J_goto 19 dX9_ofGate_53 rfl ?_
        refine ih (i + 1) (d + 1) _ (by omega) (by omega) ?_
        rw [hst]
        first | (rw [if_pos (by assumption)]; done) | (rw [if_neg (by assumption)]; done)
theorem c_X9_ofGate (hok : okG σ) (hc : inR c) (hx : inR x) : Ct P 5 yX9_ofGate cX9_ofGate 5 (some .int) [vr P 36, vi c, vi x] σ (qi fun z σ' => aOfGate (σ 36 1) (vR σ) c x = z ∧ G3 σ σ') := by
  refine Ct.bd (fun hB => ?_)
  refine Ct.of _ rfl rfl rfl (Nat.le_of_ble_eq_true rfl) (fun hB => ?_)
  refine J_aload_n (i := 0) 1 dX9_ofGate_0 rfl rfl rfl ?_
  refine J_iload_n (i := 1) 2 dX9_ofGate_1 rfl rfl rfl ?_
  refine J_callVi 5 dX9_ofGate_2 rfl kX9_189 mX9_noGate rfl rfl rfl (c_X9_noGate) (by first | decide | omega) rfl rfl (Nat.le_of_ble_eq_true rfl) (fun z2 s3 h1 => ?_)
  obtain ⟨rfl, rfl⟩ := h1
  refine J_bif_eq 10 8 dX9_ofGate_5 rfl rfl (fun c4 => ?_) (fun c4 => ?_)
  · refine J_aload_n (i := 0) 11 dX9_ofGate_10 rfl rfl rfl ?_
    refine J_callVv 14 dX9_ofGate_11 rfl kX9_183 mX9_gives rfl rfl rfl (c_X9_gives hok) (by first | decide | omega) rfl rfl (Nat.le_of_ble_eq_true rfl) (fun s7 h5 => ?_)
    have hG := h5
    refine J_iconst 15 dX9_ofGate_14 rfl ?_
    refine J_istore_n (i := 3) 16 dX9_ofGate_15 rfl rfl (by decide) ?_
    refine J_iconst 17 dX9_ofGate_16 rfl ?_
    refine J_istore 19 dX9_ofGate_17 rfl (by decide) ?_
    exact l_X9_ofGate hB hG (by omega) hx _ 0 _ _ (Nat.zero_add _) rfl rfl
  · refine J_iconst 9 dX9_ofGate_8 rfl ?_
    refine J_iret dX9_ofGate_9 rfl ?_
    exact ⟨if_pos (by omega), fun _ _ _ _ => rfl⟩
theorem c_X9_show (hc : inR c := by omega) (hx : inR x := by omega) : Ct P 3 yX9_show cX9_show 4 (some .int) [vr P 36, vi c, vi x] σ (rI (aDig (σ 36 2) c x (σ 40 c)) (if (0 ≤ c ∧ c < σ 36 2) ∧ 0 ≤ x ∧ x ≤ 9 then jup σ 40 c x else σ)) := by
  refine Ct.bd (fun hB => ?_)
  have hn : 0 ≤ σ 36 2 ∧ σ 36 2 ≤ 6 := hB 36 2
  refine Ct.of _ rfl rfl rfl (Nat.le_of_ble_eq_true rfl) (fun hB => ?_)
  refine J_aload_n (i := 0) 1 dX9_show_0 rfl rfl rfl ?_
  refine J_iload_n (i := 1) 2 dX9_show_1 rfl rfl rfl ?_
  refine J_callVi 5 dX9_show_2 rfl kX9_180 mX9_noComer rfl rfl rfl (c_X9_noComer) (by first | decide | omega) rfl rfl (Nat.le_of_ble_eq_true rfl) (fun z2 s3 h1 => ?_)
  obtain ⟨rfl, rfl⟩ := h1
  refine J_bif_eq 10 8 dX9_show_5 rfl rfl (fun c4 => ?_) (fun c4 => ?_)
  · refine J_iload_n (i := 2) 11 dX9_show_10 rfl rfl rfl ?_
    refine J_callSi 14 dX9_show_11 rfl kX9_198 mX9_isFigure (c_X9_isFigure) (by first | decide | omega) rfl rfl (Nat.le_of_ble_eq_true rfl) (fun z6 s7 h5 => ?_)
    obtain ⟨rfl, rfl⟩ := h5
    refine J_bif_ne 20 17 dX9_show_14 rfl rfl (fun c8 => ?_) (fun c8 => ?_)
    · refine J_aload_n (i := 0) 21 dX9_show_20 rfl rfl rfl ?_
      refine J_getR 24 dX9_show_21 rfl fX9_19 rfl rfl ?_
      refine J_iload_n (i := 1) 25 dX9_show_24 rfl rfl rfl ?_
      refine J_iald (N := 6) (lo := 0) (hi := 9) 26 dX9_show_25 rfl rfl rfl rfl (fun b9 b10 => ?_)
      refine J_istore_n (i := 3) 27 dX9_show_26 rfl rfl (by decide) ?_
      refine J_aload_n (i := 0) 28 dX9_show_27 rfl rfl rfl ?_
      refine J_getR 31 dX9_show_28 rfl fX9_19 rfl rfl ?_
      refine J_iload_n (i := 1) 32 dX9_show_31 rfl rfl rfl ?_
      refine J_iload_n (i := 2) 33 dX9_show_32 rfl rfl rfl ?_
      refine J_iast (N := 6) (lo := 0) (hi := 9) 34 dX9_show_33 rfl rfl rfl rfl ?_
      refine J_iload_n (i := 3) 35 dX9_show_34 rfl rfl rfl ?_
      refine J_iret dX9_show_35 rfl ?_
      refine ⟨?_, ?_⟩
      · unfold aDig
        first | rfl | (rw [if_pos (by omega)]; first | done | rfl) | (rw [if_neg (by omega)]; first | done | rfl) | (rw [if_neg (by omega), if_pos (by omega)]; first | done | rfl) | (rw [if_neg (by omega), if_neg (by omega)]; first | done | rfl) | (rw [if_neg (by omega), if_neg (by omega), if_pos (by omega)]; first | done | rfl) | (rw [if_neg (by omega), if_neg (by omega), if_neg (by omega)]; first | done | rfl) | (rw [if_neg (by omega), if_neg (by omega), if_neg (by omega), if_pos (by omega)]; first | done | rfl) | (rw [if_neg (by omega), if_neg (by omega), if_neg (by omega), if_neg (by omega)]; first | done | rfl) | (rw [if_neg (by omega), if_neg (by omega), if_neg (by omega), if_neg (by omega), if_pos (by omega)]; first | done | rfl) | (rw [if_neg (by omega), if_neg (by omega), if_neg (by omega), if_neg (by omega), if_neg (by omega)]; first | done | rfl)
      · first | rfl | (rw [if_pos (by omega)]; first | done | rfl) | (rw [if_neg (by omega)]; first | done | rfl) | (rw [if_neg (by omega), if_pos (by omega)]; first | done | rfl) | (rw [if_neg (by omega), if_neg (by omega)]; first | done | rfl) | (rw [if_neg (by omega), if_neg (by omega), if_pos (by omega)]; first | done | rfl) | (rw [if_neg (by omega), if_neg (by omega), if_neg (by omega)]; first | done | rfl) | (rw [if_neg (by omega), if_neg (by omega), if_neg (by omega), if_pos (by omega)]; first | done | rfl) | (rw [if_neg (by omega), if_neg (by omega), if_neg (by omega), if_neg (by omega)]; first | done | rfl) | (rw [if_neg (by omega), if_neg (by omega), if_neg (by omega), if_neg (by omega), if_pos (by omega)]; first | done | rfl) | (rw [if_neg (by omega), if_neg (by omega), if_neg (by omega), if_neg (by omega), if_neg (by omega)]; first | done | rfl)
    · refine J_bipush 19 dX9_show_17 rfl (by decide) ?_
      refine J_iret dX9_show_19 rfl ?_
      refine ⟨?_, ?_⟩
      · unfold aDig
        first | rfl | (rw [if_pos (by omega)]; first | done | rfl) | (rw [if_neg (by omega)]; first | done | rfl) | (rw [if_neg (by omega), if_pos (by omega)]; first | done | rfl) | (rw [if_neg (by omega), if_neg (by omega)]; first | done | rfl) | (rw [if_neg (by omega), if_neg (by omega), if_pos (by omega)]; first | done | rfl) | (rw [if_neg (by omega), if_neg (by omega), if_neg (by omega)]; first | done | rfl) | (rw [if_neg (by omega), if_neg (by omega), if_neg (by omega), if_pos (by omega)]; first | done | rfl) | (rw [if_neg (by omega), if_neg (by omega), if_neg (by omega), if_neg (by omega)]; first | done | rfl) | (rw [if_neg (by omega), if_neg (by omega), if_neg (by omega), if_neg (by omega), if_pos (by omega)]; first | done | rfl) | (rw [if_neg (by omega), if_neg (by omega), if_neg (by omega), if_neg (by omega), if_neg (by omega)]; first | done | rfl)
      · first | rfl | (rw [if_pos (by omega)]; first | done | rfl) | (rw [if_neg (by omega)]; first | done | rfl) | (rw [if_neg (by omega), if_pos (by omega)]; first | done | rfl) | (rw [if_neg (by omega), if_neg (by omega)]; first | done | rfl) | (rw [if_neg (by omega), if_neg (by omega), if_pos (by omega)]; first | done | rfl) | (rw [if_neg (by omega), if_neg (by omega), if_neg (by omega)]; first | done | rfl) | (rw [if_neg (by omega), if_neg (by omega), if_neg (by omega), if_pos (by omega)]; first | done | rfl) | (rw [if_neg (by omega), if_neg (by omega), if_neg (by omega), if_neg (by omega)]; first | done | rfl) | (rw [if_neg (by omega), if_neg (by omega), if_neg (by omega), if_neg (by omega), if_pos (by omega)]; first | done | rfl) | (rw [if_neg (by omega), if_neg (by omega), if_neg (by omega), if_neg (by omega), if_neg (by omega)]; first | done | rfl)
  · refine J_iconst 9 dX9_show_8 rfl ?_
    refine J_iret dX9_show_9 rfl ?_
    refine ⟨?_, ?_⟩
    · unfold aDig
      first | rfl | (rw [if_pos (by omega)]; first | done | rfl) | (rw [if_neg (by omega)]; first | done | rfl) | (rw [if_neg (by omega), if_pos (by omega)]; first | done | rfl) | (rw [if_neg (by omega), if_neg (by omega)]; first | done | rfl) | (rw [if_neg (by omega), if_neg (by omega), if_pos (by omega)]; first | done | rfl) | (rw [if_neg (by omega), if_neg (by omega), if_neg (by omega)]; first | done | rfl) | (rw [if_neg (by omega), if_neg (by omega), if_neg (by omega), if_pos (by omega)]; first | done | rfl) | (rw [if_neg (by omega), if_neg (by omega), if_neg (by omega), if_neg (by omega)]; first | done | rfl) | (rw [if_neg (by omega), if_neg (by omega), if_neg (by omega), if_neg (by omega), if_pos (by omega)]; first | done | rfl) | (rw [if_neg (by omega), if_neg (by omega), if_neg (by omega), if_neg (by omega), if_neg (by omega)]; first | done | rfl)
    · first | rfl | (rw [if_pos (by omega)]; first | done | rfl) | (rw [if_neg (by omega)]; first | done | rfl) | (rw [if_neg (by omega), if_pos (by omega)]; first | done | rfl) | (rw [if_neg (by omega), if_neg (by omega)]; first | done | rfl) | (rw [if_neg (by omega), if_neg (by omega), if_pos (by omega)]; first | done | rfl) | (rw [if_neg (by omega), if_neg (by omega), if_neg (by omega)]; first | done | rfl) | (rw [if_neg (by omega), if_neg (by omega), if_neg (by omega), if_pos (by omega)]; first | done | rfl) | (rw [if_neg (by omega), if_neg (by omega), if_neg (by omega), if_neg (by omega)]; first | done | rfl) | (rw [if_neg (by omega), if_neg (by omega), if_neg (by omega), if_neg (by omega), if_pos (by omega)]; first | done | rfl) | (rw [if_neg (by omega), if_neg (by omega), if_neg (by omega), if_neg (by omega), if_neg (by omega)]; first | done | rfl)
theorem c_X9_bake (hc : inR c := by omega) (hx : inR x := by omega) : Ct P 3 yX9_bake cX9_bake 4 (some .int) [vr P 36, vi c, vi x] σ (rI (aDig (σ 36 1) c x (σ 37 c)) (if (0 ≤ c ∧ c < σ 36 1) ∧ 0 ≤ x ∧ x ≤ 9 then jup σ 37 c x else σ)) := by
  refine Ct.bd (fun hB => ?_)
  have hn : 0 ≤ σ 36 1 ∧ σ 36 1 ≤ 3 := hB 36 1
  refine Ct.of _ rfl rfl rfl (Nat.le_of_ble_eq_true rfl) (fun hB => ?_)
  refine J_aload_n (i := 0) 1 dX9_bake_0 rfl rfl rfl ?_
  refine J_iload_n (i := 1) 2 dX9_bake_1 rfl rfl rfl ?_
  refine J_callVi 5 dX9_bake_2 rfl kX9_189 mX9_noGate rfl rfl rfl (c_X9_noGate) (by first | decide | omega) rfl rfl (Nat.le_of_ble_eq_true rfl) (fun z2 s3 h1 => ?_)
  obtain ⟨rfl, rfl⟩ := h1
  refine J_bif_eq 10 8 dX9_bake_5 rfl rfl (fun c4 => ?_) (fun c4 => ?_)
  · refine J_iload_n (i := 2) 11 dX9_bake_10 rfl rfl rfl ?_
    refine J_callSi 14 dX9_bake_11 rfl kX9_198 mX9_isFigure (c_X9_isFigure) (by first | decide | omega) rfl rfl (Nat.le_of_ble_eq_true rfl) (fun z6 s7 h5 => ?_)
    obtain ⟨rfl, rfl⟩ := h5
    refine J_bif_ne 20 17 dX9_bake_14 rfl rfl (fun c8 => ?_) (fun c8 => ?_)
    · refine J_aload_n (i := 0) 21 dX9_bake_20 rfl rfl rfl ?_
      refine J_getR 24 dX9_bake_21 rfl fX9_7 rfl rfl ?_
      refine J_iload_n (i := 1) 25 dX9_bake_24 rfl rfl rfl ?_
      refine J_iald (N := 3) (lo := 0) (hi := 9) 26 dX9_bake_25 rfl rfl rfl rfl (fun b9 b10 => ?_)
      refine J_istore_n (i := 3) 27 dX9_bake_26 rfl rfl (by decide) ?_
      refine J_aload_n (i := 0) 28 dX9_bake_27 rfl rfl rfl ?_
      refine J_getR 31 dX9_bake_28 rfl fX9_7 rfl rfl ?_
      refine J_iload_n (i := 1) 32 dX9_bake_31 rfl rfl rfl ?_
      refine J_iload_n (i := 2) 33 dX9_bake_32 rfl rfl rfl ?_
      refine J_iast (N := 3) (lo := 0) (hi := 9) 34 dX9_bake_33 rfl rfl rfl rfl ?_
      refine J_iload_n (i := 3) 35 dX9_bake_34 rfl rfl rfl ?_
      refine J_iret dX9_bake_35 rfl ?_
      refine ⟨?_, ?_⟩
      · unfold aDig
        first | rfl | (rw [if_pos (by omega)]; first | done | rfl) | (rw [if_neg (by omega)]; first | done | rfl) | (rw [if_neg (by omega), if_pos (by omega)]; first | done | rfl) | (rw [if_neg (by omega), if_neg (by omega)]; first | done | rfl) | (rw [if_neg (by omega), if_neg (by omega), if_pos (by omega)]; first | done | rfl) | (rw [if_neg (by omega), if_neg (by omega), if_neg (by omega)]; first | done | rfl) | (rw [if_neg (by omega), if_neg (by omega), if_neg (by omega), if_pos (by omega)]; first | done | rfl) | (rw [if_neg (by omega), if_neg (by omega), if_neg (by omega), if_neg (by omega)]; first | done | rfl) | (rw [if_neg (by omega), if_neg (by omega), if_neg (by omega), if_neg (by omega), if_pos (by omega)]; first | done | rfl) | (rw [if_neg (by omega), if_neg (by omega), if_neg (by omega), if_neg (by omega), if_neg (by omega)]; first | done | rfl)
      · first | rfl | (rw [if_pos (by omega)]; first | done | rfl) | (rw [if_neg (by omega)]; first | done | rfl) | (rw [if_neg (by omega), if_pos (by omega)]; first | done | rfl) | (rw [if_neg (by omega), if_neg (by omega)]; first | done | rfl) | (rw [if_neg (by omega), if_neg (by omega), if_pos (by omega)]; first | done | rfl) | (rw [if_neg (by omega), if_neg (by omega), if_neg (by omega)]; first | done | rfl) | (rw [if_neg (by omega), if_neg (by omega), if_neg (by omega), if_pos (by omega)]; first | done | rfl) | (rw [if_neg (by omega), if_neg (by omega), if_neg (by omega), if_neg (by omega)]; first | done | rfl) | (rw [if_neg (by omega), if_neg (by omega), if_neg (by omega), if_neg (by omega), if_pos (by omega)]; first | done | rfl) | (rw [if_neg (by omega), if_neg (by omega), if_neg (by omega), if_neg (by omega), if_neg (by omega)]; first | done | rfl)
    · refine J_bipush 19 dX9_bake_17 rfl (by decide) ?_
      refine J_iret dX9_bake_19 rfl ?_
      refine ⟨?_, ?_⟩
      · unfold aDig
        first | rfl | (rw [if_pos (by omega)]; first | done | rfl) | (rw [if_neg (by omega)]; first | done | rfl) | (rw [if_neg (by omega), if_pos (by omega)]; first | done | rfl) | (rw [if_neg (by omega), if_neg (by omega)]; first | done | rfl) | (rw [if_neg (by omega), if_neg (by omega), if_pos (by omega)]; first | done | rfl) | (rw [if_neg (by omega), if_neg (by omega), if_neg (by omega)]; first | done | rfl) | (rw [if_neg (by omega), if_neg (by omega), if_neg (by omega), if_pos (by omega)]; first | done | rfl) | (rw [if_neg (by omega), if_neg (by omega), if_neg (by omega), if_neg (by omega)]; first | done | rfl) | (rw [if_neg (by omega), if_neg (by omega), if_neg (by omega), if_neg (by omega), if_pos (by omega)]; first | done | rfl) | (rw [if_neg (by omega), if_neg (by omega), if_neg (by omega), if_neg (by omega), if_neg (by omega)]; first | done | rfl)
      · first | rfl | (rw [if_pos (by omega)]; first | done | rfl) | (rw [if_neg (by omega)]; first | done | rfl) | (rw [if_neg (by omega), if_pos (by omega)]; first | done | rfl) | (rw [if_neg (by omega), if_neg (by omega)]; first | done | rfl) | (rw [if_neg (by omega), if_neg (by omega), if_pos (by omega)]; first | done | rfl) | (rw [if_neg (by omega), if_neg (by omega), if_neg (by omega)]; first | done | rfl) | (rw [if_neg (by omega), if_neg (by omega), if_neg (by omega), if_pos (by omega)]; first | done | rfl) | (rw [if_neg (by omega), if_neg (by omega), if_neg (by omega), if_neg (by omega)]; first | done | rfl) | (rw [if_neg (by omega), if_neg (by omega), if_neg (by omega), if_neg (by omega), if_pos (by omega)]; first | done | rfl) | (rw [if_neg (by omega), if_neg (by omega), if_neg (by omega), if_neg (by omega), if_neg (by omega)]; first | done | rfl)
  · refine J_iconst 9 dX9_bake_8 rfl ?_
    refine J_iret dX9_bake_9 rfl ?_
    refine ⟨?_, ?_⟩
    · unfold aDig
      first | rfl | (rw [if_pos (by omega)]; first | done | rfl) | (rw [if_neg (by omega)]; first | done | rfl) | (rw [if_neg (by omega), if_pos (by omega)]; first | done | rfl) | (rw [if_neg (by omega), if_neg (by omega)]; first | done | rfl) | (rw [if_neg (by omega), if_neg (by omega), if_pos (by omega)]; first | done | rfl) | (rw [if_neg (by omega), if_neg (by omega), if_neg (by omega)]; first | done | rfl) | (rw [if_neg (by omega), if_neg (by omega), if_neg (by omega), if_pos (by omega)]; first | done | rfl) | (rw [if_neg (by omega), if_neg (by omega), if_neg (by omega), if_neg (by omega)]; first | done | rfl) | (rw [if_neg (by omega), if_neg (by omega), if_neg (by omega), if_neg (by omega), if_pos (by omega)]; first | done | rfl) | (rw [if_neg (by omega), if_neg (by omega), if_neg (by omega), if_neg (by omega), if_neg (by omega)]; first | done | rfl)
    · first | rfl | (rw [if_pos (by omega)]; first | done | rfl) | (rw [if_neg (by omega)]; first | done | rfl) | (rw [if_neg (by omega), if_pos (by omega)]; first | done | rfl) | (rw [if_neg (by omega), if_neg (by omega)]; first | done | rfl) | (rw [if_neg (by omega), if_neg (by omega), if_pos (by omega)]; first | done | rfl) | (rw [if_neg (by omega), if_neg (by omega), if_neg (by omega)]; first | done | rfl) | (rw [if_neg (by omega), if_neg (by omega), if_neg (by omega), if_pos (by omega)]; first | done | rfl) | (rw [if_neg (by omega), if_neg (by omega), if_neg (by omega), if_neg (by omega)]; first | done | rfl) | (rw [if_neg (by omega), if_neg (by omega), if_neg (by omega), if_neg (by omega), if_pos (by omega)]; first | done | rfl) | (rw [if_neg (by omega), if_neg (by omega), if_neg (by omega), if_neg (by omega), if_neg (by omega)]; first | done | rfl)
theorem c_X9_lead (hc : inR c := by omega) (hx : inR x := by omega) : Ct P 3 yX9_lead cX9_lead 4 (some .int) [vr P 36, vi c, vi x] σ (rI (if ¬ ((0 ≤ c ∧ c < σ 36 2) ∧ 0 ≤ x ∧ x < σ 36 1) then -1 else σ 41 c) (if (0 ≤ c ∧ c < σ 36 2) ∧ 0 ≤ x ∧ x < σ 36 1 then jup σ 41 c x else σ)) := by
  refine Ct.bd (fun hB => ?_)
  have hn : 0 ≤ σ 36 2 ∧ σ 36 2 ≤ 6 := hB 36 2
  have hg : 0 ≤ σ 36 1 ∧ σ 36 1 ≤ 3 := hB 36 1
  refine Ct.of _ rfl rfl rfl (Nat.le_of_ble_eq_true rfl) (fun hB => ?_)
  refine J_aload_n (i := 0) 1 dX9_lead_0 rfl rfl rfl ?_
  refine J_iload_n (i := 1) 2 dX9_lead_1 rfl rfl rfl ?_
  refine J_callVi 5 dX9_lead_2 rfl kX9_180 mX9_noComer rfl rfl rfl (c_X9_noComer) (by first | decide | omega) rfl rfl (Nat.le_of_ble_eq_true rfl) (fun z2 s3 h1 => ?_)
  obtain ⟨rfl, rfl⟩ := h1
  refine J_bif_ne 16 8 dX9_lead_5 rfl rfl (fun c4 => ?_) (fun c4 => ?_)
  · refine J_iconst 17 dX9_lead_16 rfl ?_
    refine J_iret dX9_lead_17 rfl ?_
    refine ⟨?_, ?_⟩
    · first | rfl | (rw [if_pos (by omega)]; first | done | rfl) | (rw [if_neg (by omega)]; first | done | rfl) | (rw [if_neg (by omega), if_pos (by omega)]; first | done | rfl) | (rw [if_neg (by omega), if_neg (by omega)]; first | done | rfl) | (rw [if_neg (by omega), if_neg (by omega), if_pos (by omega)]; first | done | rfl) | (rw [if_neg (by omega), if_neg (by omega), if_neg (by omega)]; first | done | rfl) | (rw [if_neg (by omega), if_neg (by omega), if_neg (by omega), if_pos (by omega)]; first | done | rfl) | (rw [if_neg (by omega), if_neg (by omega), if_neg (by omega), if_neg (by omega)]; first | done | rfl) | (rw [if_neg (by omega), if_neg (by omega), if_neg (by omega), if_neg (by omega), if_pos (by omega)]; first | done | rfl) | (rw [if_neg (by omega), if_neg (by omega), if_neg (by omega), if_neg (by omega), if_neg (by omega)]; first | done | rfl)
    · first | rfl | (rw [if_pos (by omega)]; first | done | rfl) | (rw [if_neg (by omega)]; first | done | rfl) | (rw [if_neg (by omega), if_pos (by omega)]; first | done | rfl) | (rw [if_neg (by omega), if_neg (by omega)]; first | done | rfl) | (rw [if_neg (by omega), if_neg (by omega), if_pos (by omega)]; first | done | rfl) | (rw [if_neg (by omega), if_neg (by omega), if_neg (by omega)]; first | done | rfl) | (rw [if_neg (by omega), if_neg (by omega), if_neg (by omega), if_pos (by omega)]; first | done | rfl) | (rw [if_neg (by omega), if_neg (by omega), if_neg (by omega), if_neg (by omega)]; first | done | rfl) | (rw [if_neg (by omega), if_neg (by omega), if_neg (by omega), if_neg (by omega), if_pos (by omega)]; first | done | rfl) | (rw [if_neg (by omega), if_neg (by omega), if_neg (by omega), if_neg (by omega), if_neg (by omega)]; first | done | rfl)
  · refine J_aload_n (i := 0) 9 dX9_lead_8 rfl rfl rfl ?_
    refine J_iload_n (i := 2) 10 dX9_lead_9 rfl rfl rfl ?_
    refine J_callVi 13 dX9_lead_10 rfl kX9_189 mX9_noGate rfl rfl rfl (c_X9_noGate) (by first | decide | omega) rfl rfl (Nat.le_of_ble_eq_true rfl) (fun z6 s7 h5 => ?_)
    obtain ⟨rfl, rfl⟩ := h5
    refine J_bif_eq 18 16 dX9_lead_13 rfl rfl (fun c8 => ?_) (fun c8 => ?_)
    · refine J_aload_n (i := 0) 19 dX9_lead_18 rfl rfl rfl ?_
      refine J_getR 22 dX9_lead_19 rfl fX9_22 rfl rfl ?_
      refine J_iload_n (i := 1) 23 dX9_lead_22 rfl rfl rfl ?_
      refine J_iald (N := 6) (lo := 0) (hi := 2) 24 dX9_lead_23 rfl rfl rfl rfl (fun b9 b10 => ?_)
      refine J_istore_n (i := 3) 25 dX9_lead_24 rfl rfl (by decide) ?_
      refine J_aload_n (i := 0) 26 dX9_lead_25 rfl rfl rfl ?_
      refine J_getR 29 dX9_lead_26 rfl fX9_22 rfl rfl ?_
      refine J_iload_n (i := 1) 30 dX9_lead_29 rfl rfl rfl ?_
      refine J_iload_n (i := 2) 31 dX9_lead_30 rfl rfl rfl ?_
      refine J_iast (N := 6) (lo := 0) (hi := 2) 32 dX9_lead_31 rfl rfl rfl rfl ?_
      refine J_iload_n (i := 3) 33 dX9_lead_32 rfl rfl rfl ?_
      refine J_iret dX9_lead_33 rfl ?_
      refine ⟨?_, ?_⟩
      · first | rfl | (rw [if_pos (by omega)]; first | done | rfl) | (rw [if_neg (by omega)]; first | done | rfl) | (rw [if_neg (by omega), if_pos (by omega)]; first | done | rfl) | (rw [if_neg (by omega), if_neg (by omega)]; first | done | rfl) | (rw [if_neg (by omega), if_neg (by omega), if_pos (by omega)]; first | done | rfl) | (rw [if_neg (by omega), if_neg (by omega), if_neg (by omega)]; first | done | rfl) | (rw [if_neg (by omega), if_neg (by omega), if_neg (by omega), if_pos (by omega)]; first | done | rfl) | (rw [if_neg (by omega), if_neg (by omega), if_neg (by omega), if_neg (by omega)]; first | done | rfl) | (rw [if_neg (by omega), if_neg (by omega), if_neg (by omega), if_neg (by omega), if_pos (by omega)]; first | done | rfl) | (rw [if_neg (by omega), if_neg (by omega), if_neg (by omega), if_neg (by omega), if_neg (by omega)]; first | done | rfl)
      · first | rfl | (rw [if_pos (by omega)]; first | done | rfl) | (rw [if_neg (by omega)]; first | done | rfl) | (rw [if_neg (by omega), if_pos (by omega)]; first | done | rfl) | (rw [if_neg (by omega), if_neg (by omega)]; first | done | rfl) | (rw [if_neg (by omega), if_neg (by omega), if_pos (by omega)]; first | done | rfl) | (rw [if_neg (by omega), if_neg (by omega), if_neg (by omega)]; first | done | rfl) | (rw [if_neg (by omega), if_neg (by omega), if_neg (by omega), if_pos (by omega)]; first | done | rfl) | (rw [if_neg (by omega), if_neg (by omega), if_neg (by omega), if_neg (by omega)]; first | done | rfl) | (rw [if_neg (by omega), if_neg (by omega), if_neg (by omega), if_neg (by omega), if_pos (by omega)]; first | done | rfl) | (rw [if_neg (by omega), if_neg (by omega), if_neg (by omega), if_neg (by omega), if_neg (by omega)]; first | done | rfl)
    · refine J_iconst 17 dX9_lead_16 rfl ?_
      refine J_iret dX9_lead_17 rfl ?_
      refine ⟨?_, ?_⟩
      · first | rfl | (rw [if_pos (by omega)]; first | done | rfl) | (rw [if_neg (by omega)]; first | done | rfl) | (rw [if_neg (by omega), if_pos (by omega)]; first | done | rfl) | (rw [if_neg (by omega), if_neg (by omega)]; first | done | rfl) | (rw [if_neg (by omega), if_neg (by omega), if_pos (by omega)]; first | done | rfl) | (rw [if_neg (by omega), if_neg (by omega), if_neg (by omega)]; first | done | rfl) | (rw [if_neg (by omega), if_neg (by omega), if_neg (by omega), if_pos (by omega)]; first | done | rfl) | (rw [if_neg (by omega), if_neg (by omega), if_neg (by omega), if_neg (by omega)]; first | done | rfl) | (rw [if_neg (by omega), if_neg (by omega), if_neg (by omega), if_neg (by omega), if_pos (by omega)]; first | done | rfl) | (rw [if_neg (by omega), if_neg (by omega), if_neg (by omega), if_neg (by omega), if_neg (by omega)]; first | done | rfl)
      · first | rfl | (rw [if_pos (by omega)]; first | done | rfl) | (rw [if_neg (by omega)]; first | done | rfl) | (rw [if_neg (by omega), if_pos (by omega)]; first | done | rfl) | (rw [if_neg (by omega), if_neg (by omega)]; first | done | rfl) | (rw [if_neg (by omega), if_neg (by omega), if_pos (by omega)]; first | done | rfl) | (rw [if_neg (by omega), if_neg (by omega), if_neg (by omega)]; first | done | rfl) | (rw [if_neg (by omega), if_neg (by omega), if_neg (by omega), if_pos (by omega)]; first | done | rfl) | (rw [if_neg (by omega), if_neg (by omega), if_neg (by omega), if_neg (by omega)]; first | done | rfl) | (rw [if_neg (by omega), if_neg (by omega), if_neg (by omega), if_neg (by omega), if_pos (by omega)]; first | done | rfl) | (rw [if_neg (by omega), if_neg (by omega), if_neg (by omega), if_neg (by omega), if_neg (by omega)]; first | done | rfl)
theorem c_X9_manner (hx : inR x := by omega) : Ct P 2 yX9_manner cX9_manner 3 (some .int) [vr P 36, vi x] σ (rI (if ¬ (0 ≤ x ∧ x ≤ 2) then -2 else if ¬ 0 < σ 36 2 then -3 else σ 36 3) (if (0 ≤ x ∧ x ≤ 2) ∧ 0 < σ 36 2 then jup σ 36 3 x else σ)) := by
  refine Ct.of _ rfl rfl rfl (Nat.le_of_ble_eq_true rfl) (fun hB => ?_)
  refine J_iload_n (i := 1) 1 dX9_manner_0 rfl rfl rfl ?_
  refine J_i2l 2 dX9_manner_1 rfl ?_
  refine J_lconst (z := 0) 3 dX9_manner_2 rfl rfl ?_
  refine J_ldc2 6 dX9_manner_3 rfl cstX9_153 ?_
  refine J_callSi 9 dX9_manner_6 rfl kX9_107 mX9_in (c_X9_in) (by first | decide | omega) rfl rfl (Nat.le_of_ble_eq_true rfl) (fun z2 s3 h1 => ?_)
  obtain ⟨rfl, rfl⟩ := h1
  refine J_bif_ne 15 12 dX9_manner_9 rfl rfl (fun c4 => ?_) (fun c4 => ?_)
  · refine J_aload_n (i := 0) 16 dX9_manner_15 rfl rfl rfl ?_
    refine J_getI (jz := 2) (lo := 0) (hi := 6) 19 dX9_manner_16 rfl fX9_104 rfl rfl rfl rfl (fun b5 b6 => ?_)
    refine J_if_ne 25 22 dX9_manner_19 rfl rfl (fun c7 => ?_) (fun c7 => ?_)
    · refine J_aload_n (i := 0) 26 dX9_manner_25 rfl rfl rfl ?_
      refine J_getI (jz := 3) (lo := 0) (hi := 2) 29 dX9_manner_26 rfl fX9_162 rfl rfl rfl rfl (fun b8 b9 => ?_)
      refine J_istore_n (i := 2) 30 dX9_manner_29 rfl rfl (by decide) ?_
      refine J_aload_n (i := 0) 31 dX9_manner_30 rfl rfl rfl ?_
      refine J_iload_n (i := 1) 32 dX9_manner_31 rfl rfl rfl ?_
      refine J_putI (jz := 3) (lo := 0) (hi := 2) 35 dX9_manner_32 rfl gX9_162 rfl rfl rfl rfl ?_
      refine J_iload_n (i := 2) 36 dX9_manner_35 rfl rfl rfl ?_
      refine J_iret dX9_manner_36 rfl ?_
      refine ⟨?_, ?_⟩
      · first | rfl | (rw [if_pos (by omega)]; first | done | rfl) | (rw [if_neg (by omega)]; first | done | rfl) | (rw [if_neg (by omega), if_pos (by omega)]; first | done | rfl) | (rw [if_neg (by omega), if_neg (by omega)]; first | done | rfl) | (rw [if_neg (by omega), if_neg (by omega), if_pos (by omega)]; first | done | rfl) | (rw [if_neg (by omega), if_neg (by omega), if_neg (by omega)]; first | done | rfl) | (rw [if_neg (by omega), if_neg (by omega), if_neg (by omega), if_pos (by omega)]; first | done | rfl) | (rw [if_neg (by omega), if_neg (by omega), if_neg (by omega), if_neg (by omega)]; first | done | rfl) | (rw [if_neg (by omega), if_neg (by omega), if_neg (by omega), if_neg (by omega), if_pos (by omega)]; first | done | rfl) | (rw [if_neg (by omega), if_neg (by omega), if_neg (by omega), if_neg (by omega), if_neg (by omega)]; first | done | rfl)
      · first | rfl | (rw [if_pos (by omega)]; first | done | rfl) | (rw [if_neg (by omega)]; first | done | rfl) | (rw [if_neg (by omega), if_pos (by omega)]; first | done | rfl) | (rw [if_neg (by omega), if_neg (by omega)]; first | done | rfl) | (rw [if_neg (by omega), if_neg (by omega), if_pos (by omega)]; first | done | rfl) | (rw [if_neg (by omega), if_neg (by omega), if_neg (by omega)]; first | done | rfl) | (rw [if_neg (by omega), if_neg (by omega), if_neg (by omega), if_pos (by omega)]; first | done | rfl) | (rw [if_neg (by omega), if_neg (by omega), if_neg (by omega), if_neg (by omega)]; first | done | rfl) | (rw [if_neg (by omega), if_neg (by omega), if_neg (by omega), if_neg (by omega), if_pos (by omega)]; first | done | rfl) | (rw [if_neg (by omega), if_neg (by omega), if_neg (by omega), if_neg (by omega), if_neg (by omega)]; first | done | rfl)
    · refine J_bipush 24 dX9_manner_22 rfl (by decide) ?_
      refine J_iret dX9_manner_24 rfl ?_
      refine ⟨?_, ?_⟩
      · first | rfl | (rw [if_pos (by omega)]; first | done | rfl) | (rw [if_neg (by omega)]; first | done | rfl) | (rw [if_neg (by omega), if_pos (by omega)]; first | done | rfl) | (rw [if_neg (by omega), if_neg (by omega)]; first | done | rfl) | (rw [if_neg (by omega), if_neg (by omega), if_pos (by omega)]; first | done | rfl) | (rw [if_neg (by omega), if_neg (by omega), if_neg (by omega)]; first | done | rfl) | (rw [if_neg (by omega), if_neg (by omega), if_neg (by omega), if_pos (by omega)]; first | done | rfl) | (rw [if_neg (by omega), if_neg (by omega), if_neg (by omega), if_neg (by omega)]; first | done | rfl) | (rw [if_neg (by omega), if_neg (by omega), if_neg (by omega), if_neg (by omega), if_pos (by omega)]; first | done | rfl) | (rw [if_neg (by omega), if_neg (by omega), if_neg (by omega), if_neg (by omega), if_neg (by omega)]; first | done | rfl)
      · first | rfl | (rw [if_pos (by omega)]; first | done | rfl) | (rw [if_neg (by omega)]; first | done | rfl) | (rw [if_neg (by omega), if_pos (by omega)]; first | done | rfl) | (rw [if_neg (by omega), if_neg (by omega)]; first | done | rfl) | (rw [if_neg (by omega), if_neg (by omega), if_pos (by omega)]; first | done | rfl) | (rw [if_neg (by omega), if_neg (by omega), if_neg (by omega)]; first | done | rfl) | (rw [if_neg (by omega), if_neg (by omega), if_neg (by omega), if_pos (by omega)]; first | done | rfl) | (rw [if_neg (by omega), if_neg (by omega), if_neg (by omega), if_neg (by omega)]; first | done | rfl) | (rw [if_neg (by omega), if_neg (by omega), if_neg (by omega), if_neg (by omega), if_pos (by omega)]; first | done | rfl) | (rw [if_neg (by omega), if_neg (by omega), if_neg (by omega), if_neg (by omega), if_neg (by omega)]; first | done | rfl)
  · refine J_bipush 14 dX9_manner_12 rfl (by decide) ?_
    refine J_iret dX9_manner_14 rfl ?_
    refine ⟨?_, ?_⟩
    · first | rfl | (rw [if_pos (by omega)]; first | done | rfl) | (rw [if_neg (by omega)]; first | done | rfl) | (rw [if_neg (by omega), if_pos (by omega)]; first | done | rfl) | (rw [if_neg (by omega), if_neg (by omega)]; first | done | rfl) | (rw [if_neg (by omega), if_neg (by omega), if_pos (by omega)]; first | done | rfl) | (rw [if_neg (by omega), if_neg (by omega), if_neg (by omega)]; first | done | rfl) | (rw [if_neg (by omega), if_neg (by omega), if_neg (by omega), if_pos (by omega)]; first | done | rfl) | (rw [if_neg (by omega), if_neg (by omega), if_neg (by omega), if_neg (by omega)]; first | done | rfl) | (rw [if_neg (by omega), if_neg (by omega), if_neg (by omega), if_neg (by omega), if_pos (by omega)]; first | done | rfl) | (rw [if_neg (by omega), if_neg (by omega), if_neg (by omega), if_neg (by omega), if_neg (by omega)]; first | done | rfl)
    · first | rfl | (rw [if_pos (by omega)]; first | done | rfl) | (rw [if_neg (by omega)]; first | done | rfl) | (rw [if_neg (by omega), if_pos (by omega)]; first | done | rfl) | (rw [if_neg (by omega), if_neg (by omega)]; first | done | rfl) | (rw [if_neg (by omega), if_neg (by omega), if_pos (by omega)]; first | done | rfl) | (rw [if_neg (by omega), if_neg (by omega), if_neg (by omega)]; first | done | rfl) | (rw [if_neg (by omega), if_neg (by omega), if_neg (by omega), if_pos (by omega)]; first | done | rfl) | (rw [if_neg (by omega), if_neg (by omega), if_neg (by omega), if_neg (by omega)]; first | done | rfl) | (rw [if_neg (by omega), if_neg (by omega), if_neg (by omega), if_neg (by omega), if_pos (by omega)]; first | done | rfl) | (rw [if_neg (by omega), if_neg (by omega), if_neg (by omega), if_neg (by omega), if_neg (by omega)]; first | done | rfl)
theorem c_X9_chalk (hx : inR x := by omega) : Ct P 3 yX9_chalk cX9_chalk 3 (some .int) [vr P 36, vi x] σ (rI (if ¬ (0 ≤ x ∧ x ≤ 9) then -2 else if ¬ 0 < σ 36 2 then -3 else σ 36 4) (if (0 ≤ x ∧ x ≤ 9) ∧ 0 < σ 36 2 then jup σ 36 4 x else σ)) := by
  refine Ct.of _ rfl rfl rfl (Nat.le_of_ble_eq_true rfl) (fun hB => ?_)
  refine J_iload_n (i := 1) 1 dX9_chalk_0 rfl rfl rfl ?_
  refine J_callSi 4 dX9_chalk_1 rfl kX9_198 mX9_isFigure (c_X9_isFigure) (by first | decide | omega) rfl rfl (Nat.le_of_ble_eq_true rfl) (fun z2 s3 h1 => ?_)
  obtain ⟨rfl, rfl⟩ := h1
  refine J_bif_ne 10 7 dX9_chalk_4 rfl rfl (fun c4 => ?_) (fun c4 => ?_)
  · refine J_aload_n (i := 0) 11 dX9_chalk_10 rfl rfl rfl ?_
    refine J_getI (jz := 2) (lo := 0) (hi := 6) 14 dX9_chalk_11 rfl fX9_104 rfl rfl rfl rfl (fun b5 b6 => ?_)
    refine J_if_ne 20 17 dX9_chalk_14 rfl rfl (fun c7 => ?_) (fun c7 => ?_)
    · refine J_aload_n (i := 0) 21 dX9_chalk_20 rfl rfl rfl ?_
      refine J_getI (jz := 4) (lo := 0) (hi := 9) 24 dX9_chalk_21 rfl fX9_165 rfl rfl rfl rfl (fun b8 b9 => ?_)
      refine J_istore_n (i := 2) 25 dX9_chalk_24 rfl rfl (by decide) ?_
      refine J_aload_n (i := 0) 26 dX9_chalk_25 rfl rfl rfl ?_
      refine J_iload_n (i := 1) 27 dX9_chalk_26 rfl rfl rfl ?_
      refine J_putI (jz := 4) (lo := 0) (hi := 9) 30 dX9_chalk_27 rfl gX9_165 rfl rfl rfl rfl ?_
      refine J_iload_n (i := 2) 31 dX9_chalk_30 rfl rfl rfl ?_
      refine J_iret dX9_chalk_31 rfl ?_
      refine ⟨?_, ?_⟩
      · first | rfl | (rw [if_pos (by omega)]; first | done | rfl) | (rw [if_neg (by omega)]; first | done | rfl) | (rw [if_neg (by omega), if_pos (by omega)]; first | done | rfl) | (rw [if_neg (by omega), if_neg (by omega)]; first | done | rfl) | (rw [if_neg (by omega), if_neg (by omega), if_pos (by omega)]; first | done | rfl) | (rw [if_neg (by omega), if_neg (by omega), if_neg (by omega)]; first | done | rfl) | (rw [if_neg (by omega), if_neg (by omega), if_neg (by omega), if_pos (by omega)]; first | done | rfl) | (rw [if_neg (by omega), if_neg (by omega), if_neg (by omega), if_neg (by omega)]; first | done | rfl) | (rw [if_neg (by omega), if_neg (by omega), if_neg (by omega), if_neg (by omega), if_pos (by omega)]; first | done | rfl) | (rw [if_neg (by omega), if_neg (by omega), if_neg (by omega), if_neg (by omega), if_neg (by omega)]; first | done | rfl)
      · first | rfl | (rw [if_pos (by omega)]; first | done | rfl) | (rw [if_neg (by omega)]; first | done | rfl) | (rw [if_neg (by omega), if_pos (by omega)]; first | done | rfl) | (rw [if_neg (by omega), if_neg (by omega)]; first | done | rfl) | (rw [if_neg (by omega), if_neg (by omega), if_pos (by omega)]; first | done | rfl) | (rw [if_neg (by omega), if_neg (by omega), if_neg (by omega)]; first | done | rfl) | (rw [if_neg (by omega), if_neg (by omega), if_neg (by omega), if_pos (by omega)]; first | done | rfl) | (rw [if_neg (by omega), if_neg (by omega), if_neg (by omega), if_neg (by omega)]; first | done | rfl) | (rw [if_neg (by omega), if_neg (by omega), if_neg (by omega), if_neg (by omega), if_pos (by omega)]; first | done | rfl) | (rw [if_neg (by omega), if_neg (by omega), if_neg (by omega), if_neg (by omega), if_neg (by omega)]; first | done | rfl)
    · refine J_bipush 19 dX9_chalk_17 rfl (by decide) ?_
      refine J_iret dX9_chalk_19 rfl ?_
      refine ⟨?_, ?_⟩
      · first | rfl | (rw [if_pos (by omega)]; first | done | rfl) | (rw [if_neg (by omega)]; first | done | rfl) | (rw [if_neg (by omega), if_pos (by omega)]; first | done | rfl) | (rw [if_neg (by omega), if_neg (by omega)]; first | done | rfl) | (rw [if_neg (by omega), if_neg (by omega), if_pos (by omega)]; first | done | rfl) | (rw [if_neg (by omega), if_neg (by omega), if_neg (by omega)]; first | done | rfl) | (rw [if_neg (by omega), if_neg (by omega), if_neg (by omega), if_pos (by omega)]; first | done | rfl) | (rw [if_neg (by omega), if_neg (by omega), if_neg (by omega), if_neg (by omega)]; first | done | rfl) | (rw [if_neg (by omega), if_neg (by omega), if_neg (by omega), if_neg (by omega), if_pos (by omega)]; first | done | rfl) | (rw [if_neg (by omega), if_neg (by omega), if_neg (by omega), if_neg (by omega), if_neg (by omega)]; first | done | rfl)
      · first | rfl | (rw [if_pos (by omega)]; first | done | rfl) | (rw [if_neg (by omega)]; first | done | rfl) | (rw [if_neg (by omega), if_pos (by omega)]; first | done | rfl) | (rw [if_neg (by omega), if_neg (by omega)]; first | done | rfl) | (rw [if_neg (by omega), if_neg (by omega), if_pos (by omega)]; first | done | rfl) | (rw [if_neg (by omega), if_neg (by omega), if_neg (by omega)]; first | done | rfl) | (rw [if_neg (by omega), if_neg (by omega), if_neg (by omega), if_pos (by omega)]; first | done | rfl) | (rw [if_neg (by omega), if_neg (by omega), if_neg (by omega), if_neg (by omega)]; first | done | rfl) | (rw [if_neg (by omega), if_neg (by omega), if_neg (by omega), if_neg (by omega), if_pos (by omega)]; first | done | rfl) | (rw [if_neg (by omega), if_neg (by omega), if_neg (by omega), if_neg (by omega), if_neg (by omega)]; first | done | rfl)
  · refine J_bipush 9 dX9_chalk_7 rfl (by decide) ?_
    refine J_iret dX9_chalk_9 rfl ?_
    refine ⟨?_, ?_⟩
    · first | rfl | (rw [if_pos (by omega)]; first | done | rfl) | (rw [if_neg (by omega)]; first | done | rfl) | (rw [if_neg (by omega), if_pos (by omega)]; first | done | rfl) | (rw [if_neg (by omega), if_neg (by omega)]; first | done | rfl) | (rw [if_neg (by omega), if_neg (by omega), if_pos (by omega)]; first | done | rfl) | (rw [if_neg (by omega), if_neg (by omega), if_neg (by omega)]; first | done | rfl) | (rw [if_neg (by omega), if_neg (by omega), if_neg (by omega), if_pos (by omega)]; first | done | rfl) | (rw [if_neg (by omega), if_neg (by omega), if_neg (by omega), if_neg (by omega)]; first | done | rfl) | (rw [if_neg (by omega), if_neg (by omega), if_neg (by omega), if_neg (by omega), if_pos (by omega)]; first | done | rfl) | (rw [if_neg (by omega), if_neg (by omega), if_neg (by omega), if_neg (by omega), if_neg (by omega)]; first | done | rfl)
    · first | rfl | (rw [if_pos (by omega)]; first | done | rfl) | (rw [if_neg (by omega)]; first | done | rfl) | (rw [if_neg (by omega), if_pos (by omega)]; first | done | rfl) | (rw [if_neg (by omega), if_neg (by omega)]; first | done | rfl) | (rw [if_neg (by omega), if_neg (by omega), if_pos (by omega)]; first | done | rfl) | (rw [if_neg (by omega), if_neg (by omega), if_neg (by omega)]; first | done | rfl) | (rw [if_neg (by omega), if_neg (by omega), if_neg (by omega), if_pos (by omega)]; first | done | rfl) | (rw [if_neg (by omega), if_neg (by omega), if_neg (by omega), if_neg (by omega)]; first | done | rfl) | (rw [if_neg (by omega), if_neg (by omega), if_neg (by omega), if_neg (by omega), if_pos (by omega)]; first | done | rfl) | (rw [if_neg (by omega), if_neg (by omega), if_neg (by omega), if_neg (by omega), if_neg (by omega)]; first | done | rfl)
theorem c_X9_know (hc : inR c) (hx : inR x) : Ct P 3 yX9_know cX9_know 3 (some .int) [vr P 36, vi c, vi x] σ (rI (if ¬ ((0 ≤ c ∧ c < σ 36 2) ∧ (0 ≤ x ∧ x < σ 36 2) ∧ ¬ c = x) then -1 else bitM (ixor (σ 43 c) (2 ^ x.toNat)) x) (if (0 ≤ c ∧ c < σ 36 2) ∧ (0 ≤ x ∧ x < σ 36 2) ∧ ¬ c = x then jup σ 43 c (ixor (σ 43 c) (2 ^ x.toNat)) else σ)) := by
  refine Ct.bd (fun hB => ?_)
  have hn : 0 ≤ σ 36 2 ∧ σ 36 2 ≤ 6 := hB 36 2
  have hk6 : 0 ≤ σ 43 c ∧ σ 43 c ≤ 63 := hB 43 c
  refine Ct.of _ rfl rfl rfl (Nat.le_of_ble_eq_true rfl) (fun hB => ?_)
  refine J_aload_n (i := 0) 1 dX9_know_0 rfl rfl rfl ?_
  refine J_iload_n (i := 1) 2 dX9_know_1 rfl rfl rfl ?_
  refine J_callVi 5 dX9_know_2 rfl kX9_180 mX9_noComer rfl rfl rfl (c_X9_noComer) (by first | decide | omega) rfl rfl (Nat.le_of_ble_eq_true rfl) (fun z2 s3 h1 => ?_)
  obtain ⟨rfl, rfl⟩ := h1
  refine J_bif_ne 21 8 dX9_know_5 rfl rfl (fun c4 => ?_) (fun c4 => ?_)
  · refine J_iconst 22 dX9_know_21 rfl ?_
    refine J_iret dX9_know_22 rfl ?_
    refine ⟨?_, ?_⟩
    · first | rfl | (rw [if_pos (by omega)]; first | done | rfl) | (rw [if_neg (by omega)]; first | done | rfl) | (rw [if_neg (by omega), if_pos (by omega)]; first | done | rfl) | (rw [if_neg (by omega), if_neg (by omega)]; first | done | rfl) | (rw [if_neg (by omega), if_neg (by omega), if_pos (by omega)]; first | done | rfl) | (rw [if_neg (by omega), if_neg (by omega), if_neg (by omega)]; first | done | rfl) | (rw [if_neg (by omega), if_neg (by omega), if_neg (by omega), if_pos (by omega)]; first | done | rfl) | (rw [if_neg (by omega), if_neg (by omega), if_neg (by omega), if_neg (by omega)]; first | done | rfl) | (rw [if_neg (by omega), if_neg (by omega), if_neg (by omega), if_neg (by omega), if_pos (by omega)]; first | done | rfl) | (rw [if_neg (by omega), if_neg (by omega), if_neg (by omega), if_neg (by omega), if_neg (by omega)]; first | done | rfl)
    · first | rfl | (rw [if_pos (by omega)]; first | done | rfl) | (rw [if_neg (by omega)]; first | done | rfl) | (rw [if_neg (by omega), if_pos (by omega)]; first | done | rfl) | (rw [if_neg (by omega), if_neg (by omega)]; first | done | rfl) | (rw [if_neg (by omega), if_neg (by omega), if_pos (by omega)]; first | done | rfl) | (rw [if_neg (by omega), if_neg (by omega), if_neg (by omega)]; first | done | rfl) | (rw [if_neg (by omega), if_neg (by omega), if_neg (by omega), if_pos (by omega)]; first | done | rfl) | (rw [if_neg (by omega), if_neg (by omega), if_neg (by omega), if_neg (by omega)]; first | done | rfl) | (rw [if_neg (by omega), if_neg (by omega), if_neg (by omega), if_neg (by omega), if_pos (by omega)]; first | done | rfl) | (rw [if_neg (by omega), if_neg (by omega), if_neg (by omega), if_neg (by omega), if_neg (by omega)]; first | done | rfl)
  · refine J_aload_n (i := 0) 9 dX9_know_8 rfl rfl rfl ?_
    refine J_iload_n (i := 2) 10 dX9_know_9 rfl rfl rfl ?_
    refine J_callVi 13 dX9_know_10 rfl kX9_180 mX9_noComer rfl rfl rfl (c_X9_noComer) (by first | decide | omega) rfl rfl (Nat.le_of_ble_eq_true rfl) (fun z6 s7 h5 => ?_)
    obtain ⟨rfl, rfl⟩ := h5
    refine J_bif_ne 21 16 dX9_know_13 rfl rfl (fun c8 => ?_) (fun c8 => ?_)
    · refine J_iconst 22 dX9_know_21 rfl ?_
      refine J_iret dX9_know_22 rfl ?_
      refine ⟨?_, ?_⟩
      · first | rfl | (rw [if_pos (by omega)]; first | done | rfl) | (rw [if_neg (by omega)]; first | done | rfl) | (rw [if_neg (by omega), if_pos (by omega)]; first | done | rfl) | (rw [if_neg (by omega), if_neg (by omega)]; first | done | rfl) | (rw [if_neg (by omega), if_neg (by omega), if_pos (by omega)]; first | done | rfl) | (rw [if_neg (by omega), if_neg (by omega), if_neg (by omega)]; first | done | rfl) | (rw [if_neg (by omega), if_neg (by omega), if_neg (by omega), if_pos (by omega)]; first | done | rfl) | (rw [if_neg (by omega), if_neg (by omega), if_neg (by omega), if_neg (by omega)]; first | done | rfl) | (rw [if_neg (by omega), if_neg (by omega), if_neg (by omega), if_neg (by omega), if_pos (by omega)]; first | done | rfl) | (rw [if_neg (by omega), if_neg (by omega), if_neg (by omega), if_neg (by omega), if_neg (by omega)]; first | done | rfl)
      · first | rfl | (rw [if_pos (by omega)]; first | done | rfl) | (rw [if_neg (by omega)]; first | done | rfl) | (rw [if_neg (by omega), if_pos (by omega)]; first | done | rfl) | (rw [if_neg (by omega), if_neg (by omega)]; first | done | rfl) | (rw [if_neg (by omega), if_neg (by omega), if_pos (by omega)]; first | done | rfl) | (rw [if_neg (by omega), if_neg (by omega), if_neg (by omega)]; first | done | rfl) | (rw [if_neg (by omega), if_neg (by omega), if_neg (by omega), if_pos (by omega)]; first | done | rfl) | (rw [if_neg (by omega), if_neg (by omega), if_neg (by omega), if_neg (by omega)]; first | done | rfl) | (rw [if_neg (by omega), if_neg (by omega), if_neg (by omega), if_neg (by omega), if_pos (by omega)]; first | done | rfl) | (rw [if_neg (by omega), if_neg (by omega), if_neg (by omega), if_neg (by omega), if_neg (by omega)]; first | done | rfl)
    · refine J_iload_n (i := 1) 17 dX9_know_16 rfl rfl rfl ?_
      refine J_iload_n (i := 2) 18 dX9_know_17 rfl rfl rfl ?_
      refine J_icmp_ne 23 21 dX9_know_18 rfl rfl (fun c9 => ?_) (fun c9 => ?_)
      · have hp := pow_32 (c := x) (by omega)
        have hxb := ixor_b hk6 (b := 2 ^ x.toNat) (by omega)
        have hs := sh_b (a := (ixor (σ 43 c) (2 ^ x.toNat)).toNat) x (by omega)
        refine J_aload_n (i := 0) 24 dX9_know_23 rfl rfl rfl ?_
        refine J_getR 27 dX9_know_24 rfl fX9_28 rfl rfl ?_
        refine J_iload_n (i := 1) 28 dX9_know_27 rfl rfl rfl ?_
        refine J_dup2 29 dX9_know_28 rfl rfl rfl ?_
        refine J_iald (N := 6) (lo := 0) (hi := 63) 30 dX9_know_29 rfl rfl rfl rfl (fun b10 b11 => ?_)
        refine J_iconst 31 dX9_know_30 rfl ?_
        refine J_iload_n (i := 2) 32 dX9_know_31 rfl rfl rfl ?_
        refine J_ishl1 33 dX9_know_32 rfl ?_
        refine J_ixor 34 dX9_know_33 rfl ?_
        refine J_iast (N := 6) (lo := 0) (hi := 63) 35 dX9_know_34 rfl rfl rfl rfl ?_
        refine J_aload_n (i := 0) 36 dX9_know_35 rfl rfl rfl ?_
        refine J_getR 39 dX9_know_36 rfl fX9_28 rfl rfl ?_
        refine J_iload_n (i := 1) 40 dX9_know_39 rfl rfl rfl ?_
        refine J_iald (N := 6) (lo := 0) (hi := 63) 41 dX9_know_40 rfl rfl rfl rfl (fun b12 b13 => ?_)
        try simp +decide only [jup, jset, ↓reduceIte] at b12 b13 ⊢
        refine J_iload_n (i := 2) 42 dX9_know_41 rfl rfl rfl ?_
        refine J_ishr 43 dX9_know_42 rfl ?_
        refine J_iconst 44 dX9_know_43 rfl ?_
        refine J_iand 45 dX9_know_44 rfl ?_
        refine J_iret dX9_know_45 rfl ?_
        refine ⟨?_, ?_⟩
        · first | rfl | (rw [if_pos (by omega)]; first | done | rfl) | (rw [if_neg (by omega)]; first | done | rfl) | (rw [if_neg (by omega), if_pos (by omega)]; first | done | rfl) | (rw [if_neg (by omega), if_neg (by omega)]; first | done | rfl) | (rw [if_neg (by omega), if_neg (by omega), if_pos (by omega)]; first | done | rfl) | (rw [if_neg (by omega), if_neg (by omega), if_neg (by omega)]; first | done | rfl) | (rw [if_neg (by omega), if_neg (by omega), if_neg (by omega), if_pos (by omega)]; first | done | rfl) | (rw [if_neg (by omega), if_neg (by omega), if_neg (by omega), if_neg (by omega)]; first | done | rfl) | (rw [if_neg (by omega), if_neg (by omega), if_neg (by omega), if_neg (by omega), if_pos (by omega)]; first | done | rfl) | (rw [if_neg (by omega), if_neg (by omega), if_neg (by omega), if_neg (by omega), if_neg (by omega)]; first | done | rfl)
        · first | rfl | (rw [if_pos (by omega)]; first | done | rfl) | (rw [if_neg (by omega)]; first | done | rfl) | (rw [if_neg (by omega), if_pos (by omega)]; first | done | rfl) | (rw [if_neg (by omega), if_neg (by omega)]; first | done | rfl) | (rw [if_neg (by omega), if_neg (by omega), if_pos (by omega)]; first | done | rfl) | (rw [if_neg (by omega), if_neg (by omega), if_neg (by omega)]; first | done | rfl) | (rw [if_neg (by omega), if_neg (by omega), if_neg (by omega), if_pos (by omega)]; first | done | rfl) | (rw [if_neg (by omega), if_neg (by omega), if_neg (by omega), if_neg (by omega)]; first | done | rfl) | (rw [if_neg (by omega), if_neg (by omega), if_neg (by omega), if_neg (by omega), if_pos (by omega)]; first | done | rfl) | (rw [if_neg (by omega), if_neg (by omega), if_neg (by omega), if_neg (by omega), if_neg (by omega)]; first | done | rfl)
      · refine J_iconst 22 dX9_know_21 rfl ?_
        refine J_iret dX9_know_22 rfl ?_
        refine ⟨?_, ?_⟩
        · first | rfl | (rw [if_pos (by omega)]; first | done | rfl) | (rw [if_neg (by omega)]; first | done | rfl) | (rw [if_neg (by omega), if_pos (by omega)]; first | done | rfl) | (rw [if_neg (by omega), if_neg (by omega)]; first | done | rfl) | (rw [if_neg (by omega), if_neg (by omega), if_pos (by omega)]; first | done | rfl) | (rw [if_neg (by omega), if_neg (by omega), if_neg (by omega)]; first | done | rfl) | (rw [if_neg (by omega), if_neg (by omega), if_neg (by omega), if_pos (by omega)]; first | done | rfl) | (rw [if_neg (by omega), if_neg (by omega), if_neg (by omega), if_neg (by omega)]; first | done | rfl) | (rw [if_neg (by omega), if_neg (by omega), if_neg (by omega), if_neg (by omega), if_pos (by omega)]; first | done | rfl) | (rw [if_neg (by omega), if_neg (by omega), if_neg (by omega), if_neg (by omega), if_neg (by omega)]; first | done | rfl)
        · first | rfl | (rw [if_pos (by omega)]; first | done | rfl) | (rw [if_neg (by omega)]; first | done | rfl) | (rw [if_neg (by omega), if_pos (by omega)]; first | done | rfl) | (rw [if_neg (by omega), if_neg (by omega)]; first | done | rfl) | (rw [if_neg (by omega), if_neg (by omega), if_pos (by omega)]; first | done | rfl) | (rw [if_neg (by omega), if_neg (by omega), if_neg (by omega)]; first | done | rfl) | (rw [if_neg (by omega), if_neg (by omega), if_neg (by omega), if_pos (by omega)]; first | done | rfl) | (rw [if_neg (by omega), if_neg (by omega), if_neg (by omega), if_neg (by omega)]; first | done | rfl) | (rw [if_neg (by omega), if_neg (by omega), if_neg (by omega), if_neg (by omega), if_pos (by omega)]; first | done | rfl) | (rw [if_neg (by omega), if_neg (by omega), if_neg (by omega), if_neg (by omega), if_neg (by omega)]; first | done | rfl)
end

