/-! ===== the reference: parts ===== -/
theorem lo3_vR (τ : jS) (a b c : Int) : vR (jup (jup (jup τ 37 0 a) 37 1 b) 37 2 c) = lo3 (vR τ) a b c := by
  have e : (37 : Nat) = 36 + 1 := rfl
  unfold lo3
  rw [e, vR_up _ _ _ _ (by omega), vR_up _ _ _ _ (by omega), vR_up _ _ _ _ (by omega)]
def prI (σ : jS) (v : jS) (A : pAcc) (τ : jS) : Prop := τ 36 29 = (if A.1 = -9 then 99 else A.1) ∧ (A.1 ≠ -9 → τ 56 0 = A.2.1 ∧ τ 56 1 = A.2.2.1 ∧ τ 56 2 = A.2.2.2) ∧ (∀ x y z, lo3 (vR τ) x y z = lo3 v x y z) ∧ τ 41 = σ 41 ∧ BDY σ τ
theorem prI_G3 {σ v τ s : jS} {A : pAcc} {a b c : Int} (h : prI σ v A τ) (hG : G3 (jup (jup (jup τ 37 0 a) 37 1 b) 37 2 c) s) : prI σ v A s := by
  obtain ⟨h1, h2, h3, h4, h5⟩ := h
  have e36 : s 36 = τ 36 := by rw [hG 36 (by omega) (by omega) (by omega), jup_ne (by omega), jup_ne (by omega), jup_ne (by omega)]
  have e41 : s 41 = τ 41 := by rw [hG 41 (by omega) (by omega) (by omega), jup_ne (by omega), jup_ne (by omega), jup_ne (by omega)]
  have e56 : s 56 = τ 56 := by rw [hG 56 (by omega) (by omega) (by omega), jup_ne (by omega), jup_ne (by omega), jup_ne (by omega)]
  refine ⟨by rw [e36]; exact h1, fun h => by rw [e56]; exact h2 h, fun x y z => ?_, e41.trans h4, ?_⟩
  · rw [vR_G3 hG, lo3_vR, lo3_lo3, h3]
  · exact BDY_trans h5 (BDY_trans (BDY_trans (BDY_trans (BDY_up (by omega)) (BDY_up (by omega))) (BDY_up (by omega))) (BDY_G3 hG))
theorem prI_new {σ v s : jS} {A : pAcc} {a b c z : Int} (h : prI σ v A s) (hz : 0 ≤ z) : prI σ v (z, a, b, c) (jup (jup (jup (jup s 36 29 z) 56 0 a) 56 1 b) 56 2 c) := by
  obtain ⟨h1, h2, h3, h4, h5⟩ := h
  refine ⟨?_, fun _ => ⟨?_, ?_, ?_⟩, fun x y z => ?_, ?_, ?_⟩
  · rw [jup_ne (by omega), jup_ne (by omega), jup_ne (by omega), jup_at, if_neg (by show ¬ z = -9; omega)]
  · rw [jup_ne2 (by omega), jup_ne2 (by omega), jup_at]
  · rw [jup_ne2 (by omega), jup_at]
  · rw [jup_at]
  · rw [vR_congr (σ := s) (fun j _ => ?_) (fun q _ => ?_)]
    · exact h3 x y z
    · rw [jup_ne (by omega), jup_ne (by omega), jup_ne (by omega), jup_ne2 (by omega)]
    · rw [jup_ne (by omega), jup_ne (by omega), jup_ne (by omega), jup_ne (by omega)]
  · rw [jup_ne (by omega), jup_ne (by omega), jup_ne (by omega), jup_ne (by omega)]
    exact h4
  · exact BDY_trans h5 (BDY_trans (BDY_trans (BDY_trans (BDY_up (by omega)) (BDY_up (by omega))) (BDY_up (by omega))) (BDY_up (by omega)))
theorem okP_eq {g all a b : Int} (hg : 0 < g) (ha : 0 ≤ a ∧ a ≤ 9) (hb : 0 ≤ b ∧ b ≤ 9) : okP g all a b = true ↔ (0 ≤ all - a - b ∧ all - a - b ≤ 9) ∧ (1 < g ∨ b = 0) ∧ (2 < g ∨ all - a - b = 0) := by
  rw [okP_iff, if_pos hg]
  by_cases h1 : 1 < g
  · rw [if_pos h1]
    by_cases h2 : 2 < g
    · rw [if_pos h2]; omega
    · rw [if_neg h2]; omega
  · rw [if_neg h1, if_neg (by omega)]; omega
theorem parW_ne (v : jS) (A : pAcc) (a b c : Int) : (parW v A a b c).1 ≠ -9 := by
  unfold parW
  by_cases h : A.1 ≠ -9 ∧ A.1 ≤ cnt3 v a b c
  · rw [if_pos h]; exact h.1
  · rw [if_neg h]
    have : 0 ≤ cnt3 v a b c := by unfold cnt3 popM; exact Int.natCast_nonneg _
    show cnt3 v a b c ≠ -9
    omega
theorem parB_keep {v : jS} {all a : Int} {A : pAcc} (h : A.1 ≠ -9) : ∀ n, (parB v all a A n).1 ≠ -9 := by
  intro n
  induction n with
  | zero => exact h
  | succ n ih =>
    simp only [parB]
    split
    · exact parW_ne _ _ _ _ _
    · exact ih
theorem parB_ok {v : jS} {all a : Int} {A : pAcc} {b : Nat} (h : okP (v 0 0) all a b = true) : ∀ n, b < n → (parB v all a A n).1 ≠ -9 := by
  intro n
  induction n with
  | zero => intro h2; omega
  | succ n ih =>
    intro h2
    simp only [parB]
    by_cases e : b = n
    · subst e; rw [if_pos h]; exact parW_ne _ _ _ _ _
    · split
      · exact parW_ne _ _ _ _ _
      · exact ih (by omega)
theorem parA_ok {v : jS} {all : Int} {a b : Nat} (h : okP (v 0 0) all a b = true) (hb : b < 10) : ∀ n, a < n → (parA v all n).1 ≠ -9 := by
  intro n
  induction n with
  | zero => intro h2; omega
  | succ n ih =>
    intro h2
    simp only [parA]
    by_cases e : a = n
    · subst e; exact parB_ok h 10 hb
    · exact parB_keep (ih (by omega)) 10
theorem parM_ne {v : jS} (hv : wvB v) (hg : 0 < v 0 0) : (parM v).1 ≠ -9 := by
  have hl := hv.2.2.2.2.1
  have h0 := hl 0
  have h1 := hl 1
  have h2 := hl 2
  have hg3 := hv.1.2
  unfold parM
  have hgM : gM v = (v 0 0).toNat := rfl
  rcases (show v 0 0 = 1 ∨ v 0 0 = 2 ∨ v 0 0 = 3 by omega) with e | e | e
  · have hs : sumN (v 1) (gM v) = v 1 0 := by
      rw [hgM, e]
      show 0 + v 1 0 = _
      omega
    rw [hs]
    refine parA_ok (a := (v 1 0).toNat) (b := 0) ?_ (by omega) 10 (by omega)
    rw [okP_eq hg (by omega) (by omega)]
    omega
  · have hs : sumN (v 1) (gM v) = v 1 0 + v 1 1 := by
      rw [hgM, e]
      show 0 + v 1 0 + v 1 1 = _
      omega
    rw [hs]
    refine parA_ok (a := (v 1 0).toNat) (b := (v 1 1).toNat) ?_ (by omega) 10 (by omega)
    rw [okP_eq hg (by omega) (by omega)]
    omega
  · have hs : sumN (v 1) (gM v) = v 1 0 + v 1 1 + v 1 2 := by
      rw [hgM, e]
      show 0 + v 1 0 + v 1 1 + v 1 2 = _
      omega
    rw [hs]
    refine parA_ok (a := (v 1 0).toNat) (b := (v 1 1).toNat) ?_ (by omega) 10 (by omega)
    rw [okP_eq hg (by omega) (by omega)]
    omega
section
variable {P : jP} {w o : Nat} {a b c d g x y z n s i j k l : Int} {σ τ v : jS} {A : pAcc}
set_option maxHeartbeats 4000000 in
theorem c_X9_triesParts (hok : okG σ) (hI : prI σ v A τ) (ha : 0 ≤ a ∧ a ≤ 9 := by omega) (hb : 0 ≤ b ∧ b ≤ 9 := by omega) (hc : 0 ≤ c ∧ c ≤ 9 := by omega) : Ct P 6 yX9_triesParts cX9_triesParts 5 none [vr P 36, vi a, vi b, vi c] τ (qv (prI σ v (parW v A a b c))) := by
  have i3 := hI.2.2.1
  have i4 := hI.2.2.2.1
  have e1 : vR (jup (jup (jup τ 37 0 a) 37 1 b) 37 2 c) = lo3 v a b c := by rw [lo3_vR, i3]
  have hok2 : okG (jup (jup (jup τ 37 0 a) 37 1 b) 37 2 c) := okG_of hok (hI.2.2.2.2.2 1 (by omega) (by omega) (by omega)) (hI.2.2.2.2.2 2 (by omega) (by omega) (by omega)) i4
  refine Ct.of _ rfl rfl rfl (Nat.le_of_ble_eq_true rfl) (fun hB => ?_)
  refine J_aload_n (i := 0) 1 dX9_triesParts_0 rfl rfl rfl ?_
  refine J_getR 4 dX9_triesParts_1 rfl fX9_7 rfl rfl ?_
  refine J_iconst 5 dX9_triesParts_4 rfl ?_
  refine J_iload_n (i := 1) 6 dX9_triesParts_5 rfl rfl rfl ?_
  refine J_iast (N := 3) (lo := 0) (hi := 9) 7 dX9_triesParts_6 rfl rfl rfl rfl ?_
  refine J_aload_n (i := 0) 8 dX9_triesParts_7 rfl rfl rfl ?_
  refine J_getR 11 dX9_triesParts_8 rfl fX9_7 rfl rfl ?_
  refine J_iconst 12 dX9_triesParts_11 rfl ?_
  refine J_iload_n (i := 2) 13 dX9_triesParts_12 rfl rfl rfl ?_
  refine J_iast (N := 3) (lo := 0) (hi := 9) 14 dX9_triesParts_13 rfl rfl rfl rfl ?_
  refine J_aload_n (i := 0) 15 dX9_triesParts_14 rfl rfl rfl ?_
  refine J_getR 18 dX9_triesParts_15 rfl fX9_7 rfl rfl ?_
  refine J_iconst 19 dX9_triesParts_18 rfl ?_
  refine J_iload_n (i := 3) 20 dX9_triesParts_19 rfl rfl rfl ?_
  refine J_iast (N := 3) (lo := 0) (hi := 9) 21 dX9_triesParts_20 rfl rfl rfl rfl ?_
  refine J_aload_n (i := 0) 22 dX9_triesParts_21 rfl rfl rfl ?_
  refine J_callVi 25 dX9_triesParts_22 rfl kX9_260 mX9_manyWithout rfl rfl rfl (c_X9_manyWithout hok2) (by first | decide | omega) rfl rfl (Nat.le_of_ble_eq_true rfl) (fun z2 s3 h1 => ?_)
  obtain ⟨rfl, f1⟩ := h1
  refine J.bd (fun hB2 => ?_)
  have hwb := vR_B hB2
  rw [vR_G3 f1, e1] at hwb
  have hsb := starvM_b hwb
  have hpb : 0 ≤ cnt3 v a b c ∧ cnt3 v a b c ≤ 6 := popM_b hsb
  refine J.top (e' := cnt3 v a b c) (by rw [e1]; rfl) ?_
  have hI2 := prI_G3 hI f1
  have hpw := hI2.1
  refine J_istore 27 dX9_triesParts_25 rfl (by decide) ?_
  refine J_iload 29 dX9_triesParts_27 rfl rfl ?_
  refine J_aload_n (i := 0) 30 dX9_triesParts_29 rfl rfl rfl ?_
  refine J_getI (jz := 29) (lo := 0) (hi := 99) 33 dX9_triesParts_30 rfl fX9_269 rfl rfl rfl rfl (fun b4 b5 => ?_)
  rw [hpw]
  refine J_icmp_ge 63 36 dX9_triesParts_33 rfl rfl (fun c6 => ?_) (fun c6 => ?_)
  · skip
    refine J_vret dX9_triesParts_63 rfl ?_
    first
      | (have hw : parW v A a b c = A := by { unfold parW; rw [if_pos]; by_cases e : A.1 = -9; { rw [if_pos e] at *; omega }; { rw [if_neg e] at *; omega } }
         rw [hw]
         exact hI2)
      | (have hw : parW v A a b c = (cnt3 v a b c, a, b, c) := by { unfold parW; rw [if_neg]; by_cases e : A.1 = -9; { omega }; { rw [if_neg e] at *; omega } }
         rw [hw]
         exact prI_new hI2 hpb.1)
  · refine J_aload_n (i := 0) 37 dX9_triesParts_36 rfl rfl rfl ?_
    refine J_iload 39 dX9_triesParts_37 rfl rfl ?_
    refine J_putI (jz := 29) (lo := 0) (hi := 99) 42 dX9_triesParts_39 rfl gX9_269 rfl rfl rfl rfl ?_
    refine J_aload_n (i := 0) 43 dX9_triesParts_42 rfl rfl rfl ?_
    refine J_getR 46 dX9_triesParts_43 rfl fX9_67 rfl rfl ?_
    refine J_iconst 47 dX9_triesParts_46 rfl ?_
    refine J_iload_n (i := 1) 48 dX9_triesParts_47 rfl rfl rfl ?_
    refine J_iast (N := 3) (lo := 0) (hi := 9) 49 dX9_triesParts_48 rfl rfl rfl rfl ?_
    refine J_aload_n (i := 0) 50 dX9_triesParts_49 rfl rfl rfl ?_
    refine J_getR 53 dX9_triesParts_50 rfl fX9_67 rfl rfl ?_
    refine J_iconst 54 dX9_triesParts_53 rfl ?_
    refine J_iload_n (i := 2) 55 dX9_triesParts_54 rfl rfl rfl ?_
    refine J_iast (N := 3) (lo := 0) (hi := 9) 56 dX9_triesParts_55 rfl rfl rfl rfl ?_
    refine J_aload_n (i := 0) 57 dX9_triesParts_56 rfl rfl rfl ?_
    refine J_getR 60 dX9_triesParts_57 rfl fX9_67 rfl rfl ?_
    refine J_iconst 61 dX9_triesParts_60 rfl ?_
    refine J_iload_n (i := 3) 62 dX9_triesParts_61 rfl rfl rfl ?_
    refine J_iast (N := 3) (lo := 0) (hi := 9) 63 dX9_triesParts_62 rfl rfl rfl rfl ?_
    skip
    refine J_vret dX9_triesParts_63 rfl ?_
    first
      | (have hw : parW v A a b c = A := by { unfold parW; rw [if_pos]; by_cases e : A.1 = -9; { rw [if_pos e] at *; omega }; { rw [if_neg e] at *; omega } }
         rw [hw]
         exact hI2)
      | (have hw : parW v A a b c = (cnt3 v a b c, a, b, c) := by { unfold parW; rw [if_neg]; by_cases e : A.1 = -9; { omega }; { rw [if_neg e] at *; omega } }
         rw [hw]
         exact prI_new hI2 hpb.1)
set_option maxHeartbeats 4000000 in
theorem l_X9_partsB {all : Int} {a : Nat} {Q : Option Value → jS → Prop} (hok : okG σ) (hg : 0 < σ 36 1) (hv : v 0 0 = σ 36 1) (hall : 0 ≤ all ∧ all ≤ 27) (ha : a ≤ 9) (hK : ∀ τ : jS, prI σ v (parB v all a A 10) τ → J P 7 (RX9, cX9_parts, 6, none) 119 [some (vr P 36), some (vi all), some (vi (a : Int)), none, none, none] [] τ Q) : ∀ (k i : Nat) (d : Int) (τ : jS), i + k = 10 → d = i → prI σ v (parB v all a A i) τ → J P 7 (RX9, cX9_parts, 6, none) 47 [some (vr P 36), some (vi all), some (vi (a : Int)), some (vi d), none, none] [] τ Q := by
  intro k
  induction k with
  | zero =>
    intro i d τ hi hd hr
    rw [Nat.add_zero] at hi
    subst hi
    refine J_iload_n (i := 3) 48 dX9_parts_47 rfl rfl rfl ?_
    refine J_bipush 50 dX9_parts_48 rfl (by decide) ?_
    refine J_icmp_gt 119 53 dX9_parts_50 rfl rfl (fun c1 => ?_) (fun c1 => ?_)
    · exact J.wk (hK τ hr) ⟨rfl, rfl, rfl, trivial⟩
    · exfalso; omega
  | succ k ih =>
    intro i d τ hi hd hr
    have eg : τ 36 1 = σ 36 1 := hr.2.2.2.2.2 1 (by omega) (by omega) (by omega)
    have hiff := okP_eq (g := v 0 0) (all := all) (a := (a : Int)) (b := (i : Int)) (by omega) (by omega) (by omega)
    refine J_iload_n (i := 3) 48 dX9_parts_47 rfl rfl rfl ?_
    refine J_bipush 50 dX9_parts_48 rfl (by decide) ?_
    refine J_icmp_gt 119 53 dX9_parts_50 rfl rfl (fun c1 => ?_) (fun c1 => ?_)
    · exfalso; omega
    · refine J_iload_n (i := 1) 54 dX9_parts_53 rfl rfl rfl ?_
      refine J_iload_n (i := 2) 55 dX9_parts_54 rfl rfl rfl ?_
      refine J_isub 56 dX9_parts_55 rfl ?_
      refine J_iload_n (i := 3) 57 dX9_parts_56 rfl rfl rfl ?_
      refine J_isub 58 dX9_parts_57 rfl ?_
      refine J_istore 60 dX9_parts_58 rfl (by decide) ?_
      refine J_iload 62 dX9_parts_60 rfl rfl ?_
      refine J_callSi 65 dX9_parts_62 rfl kX9_198 mX9_isFigure (c_X9_isFigure) (by first | decide | omega) rfl rfl (Nat.le_of_ble_eq_true rfl) (fun z3 s4 h2 => ?_)
      obtain ⟨rfl, rfl⟩ := h2
      refine J_bif_eq 97 68 dX9_parts_65 rfl rfl (fun c5 => ?_) (fun c5 => ?_)
      · refine J_iconst 98 dX9_parts_97 rfl ?_
        refine J_istore 100 dX9_parts_98 rfl (by decide) ?_
        refine J_iload 102 dX9_parts_100 rfl rfl ?_
        refine J_if_eq 113 105 dX9_parts_102 rfl rfl (fun c6 => ?_) (fun c6 => ?_)
        · refine J_iinc 116 dX9_parts_113 rfl (by decide) rfl ?_
          refine J_goto 47 dX9_parts_116 rfl ?_
          refine J.wk (ih (i + 1) (d + 1) _ (by omega) (by omega) ?_) ⟨rfl, rfl, rfl, rfl, trivial⟩
          first
            | (have hk : okP (v 0 0) all (a : Int) (i : Int) = true := hiff.mpr (by omega)
               simp only [parB]
               rw [if_pos hk]
               rw [hd] at hI2
               exact hI2)
            | (have hk : ¬ okP (v 0 0) all (a : Int) (i : Int) = true := fun h => by { have := hiff.mp h; omega }
               simp only [parB]
               rw [if_neg hk]
               exact hr)
        · refine J_aload_n (i := 0) 106 dX9_parts_105 rfl rfl rfl ?_
          refine J_iload_n (i := 2) 107 dX9_parts_106 rfl rfl rfl ?_
          refine J_iload_n (i := 3) 108 dX9_parts_107 rfl rfl rfl ?_
          refine J_iload 110 dX9_parts_108 rfl rfl ?_
          refine J_callVv 113 dX9_parts_110 rfl kX9_272 mX9_triesParts rfl rfl rfl (c_X9_triesParts hok hr) (by first | decide | omega) rfl rfl (Nat.le_of_ble_eq_true rfl) (fun s9 h7 => ?_)
          have hI2 := h7
          refine J_iinc 116 dX9_parts_113 rfl (by decide) rfl ?_
          refine J_goto 47 dX9_parts_116 rfl ?_
          refine J.wk (ih (i + 1) (d + 1) _ (by omega) (by omega) ?_) ⟨rfl, rfl, rfl, rfl, trivial⟩
          first
            | (have hk : okP (v 0 0) all (a : Int) (i : Int) = true := hiff.mpr (by omega)
               simp only [parB]
               rw [if_pos hk]
               rw [hd] at hI2
               exact hI2)
            | (have hk : ¬ okP (v 0 0) all (a : Int) (i : Int) = true := fun h => by { have := hiff.mp h; omega }
               simp only [parB]
               rw [if_neg hk]
               exact hr)
      · refine J_aload_n (i := 0) 69 dX9_parts_68 rfl rfl rfl ?_
        refine J_getI (jz := 1) (lo := 0) (hi := 3) 72 dX9_parts_69 rfl fX9_111 rfl rfl rfl rfl (fun b10 b11 => ?_)
        refine J_iconst 73 dX9_parts_72 rfl ?_
        refine J_icmp_gt 80 76 dX9_parts_73 rfl rfl (fun c12 => ?_) (fun c12 => ?_)
        · refine J_aload_n (i := 0) 81 dX9_parts_80 rfl rfl rfl ?_
          refine J_getI (jz := 1) (lo := 0) (hi := 3) 84 dX9_parts_81 rfl fX9_111 rfl rfl rfl rfl (fun b13 b14 => ?_)
          refine J_iconst 85 dX9_parts_84 rfl ?_
          refine J_icmp_gt 93 88 dX9_parts_85 rfl rfl (fun c15 => ?_) (fun c15 => ?_)
          · refine J_iconst 94 dX9_parts_93 rfl ?_
            refine J_goto 98 dX9_parts_94 rfl ?_
            refine J_istore 100 dX9_parts_98 rfl (by decide) ?_
            refine J_iload 102 dX9_parts_100 rfl rfl ?_
            refine J_if_eq 113 105 dX9_parts_102 rfl rfl (fun c16 => ?_) (fun c16 => ?_)
            · refine J_iinc 116 dX9_parts_113 rfl (by decide) rfl ?_
              refine J_goto 47 dX9_parts_116 rfl ?_
              refine J.wk (ih (i + 1) (d + 1) _ (by omega) (by omega) ?_) ⟨rfl, rfl, rfl, rfl, trivial⟩
              first
                | (have hk : okP (v 0 0) all (a : Int) (i : Int) = true := hiff.mpr (by omega)
                   simp only [parB]
                   rw [if_pos hk]
                   rw [hd] at hI2
                   exact hI2)
                | (have hk : ¬ okP (v 0 0) all (a : Int) (i : Int) = true := fun h => by { have := hiff.mp h; omega }
                   simp only [parB]
                   rw [if_neg hk]
                   exact hr)
            · refine J_aload_n (i := 0) 106 dX9_parts_105 rfl rfl rfl ?_
              refine J_iload_n (i := 2) 107 dX9_parts_106 rfl rfl rfl ?_
              refine J_iload_n (i := 3) 108 dX9_parts_107 rfl rfl rfl ?_
              refine J_iload 110 dX9_parts_108 rfl rfl ?_
              refine J_callVv 113 dX9_parts_110 rfl kX9_272 mX9_triesParts rfl rfl rfl (c_X9_triesParts hok hr) (by first | decide | omega) rfl rfl (Nat.le_of_ble_eq_true rfl) (fun s19 h17 => ?_)
              have hI2 := h17
              refine J_iinc 116 dX9_parts_113 rfl (by decide) rfl ?_
              refine J_goto 47 dX9_parts_116 rfl ?_
              refine J.wk (ih (i + 1) (d + 1) _ (by omega) (by omega) ?_) ⟨rfl, rfl, rfl, rfl, trivial⟩
              first
                | (have hk : okP (v 0 0) all (a : Int) (i : Int) = true := hiff.mpr (by omega)
                   simp only [parB]
                   rw [if_pos hk]
                   rw [hd] at hI2
                   exact hI2)
                | (have hk : ¬ okP (v 0 0) all (a : Int) (i : Int) = true := fun h => by { have := hiff.mp h; omega }
                   simp only [parB]
                   rw [if_neg hk]
                   exact hr)
          · refine J_iload 90 dX9_parts_88 rfl rfl ?_
            refine J_if_ne 97 93 dX9_parts_90 rfl rfl (fun c20 => ?_) (fun c20 => ?_)
            · refine J_iconst 98 dX9_parts_97 rfl ?_
              refine J_istore 100 dX9_parts_98 rfl (by decide) ?_
              refine J_iload 102 dX9_parts_100 rfl rfl ?_
              refine J_if_eq 113 105 dX9_parts_102 rfl rfl (fun c21 => ?_) (fun c21 => ?_)
              · refine J_iinc 116 dX9_parts_113 rfl (by decide) rfl ?_
                refine J_goto 47 dX9_parts_116 rfl ?_
                refine J.wk (ih (i + 1) (d + 1) _ (by omega) (by omega) ?_) ⟨rfl, rfl, rfl, rfl, trivial⟩
                first
                  | (have hk : okP (v 0 0) all (a : Int) (i : Int) = true := hiff.mpr (by omega)
                     simp only [parB]
                     rw [if_pos hk]
                     rw [hd] at hI2
                     exact hI2)
                  | (have hk : ¬ okP (v 0 0) all (a : Int) (i : Int) = true := fun h => by { have := hiff.mp h; omega }
                     simp only [parB]
                     rw [if_neg hk]
                     exact hr)
              · refine J_aload_n (i := 0) 106 dX9_parts_105 rfl rfl rfl ?_
                refine J_iload_n (i := 2) 107 dX9_parts_106 rfl rfl rfl ?_
                refine J_iload_n (i := 3) 108 dX9_parts_107 rfl rfl rfl ?_
                refine J_iload 110 dX9_parts_108 rfl rfl ?_
                refine J_callVv 113 dX9_parts_110 rfl kX9_272 mX9_triesParts rfl rfl rfl (c_X9_triesParts hok hr) (by first | decide | omega) rfl rfl (Nat.le_of_ble_eq_true rfl) (fun s24 h22 => ?_)
                have hI2 := h22
                refine J_iinc 116 dX9_parts_113 rfl (by decide) rfl ?_
                refine J_goto 47 dX9_parts_116 rfl ?_
                refine J.wk (ih (i + 1) (d + 1) _ (by omega) (by omega) ?_) ⟨rfl, rfl, rfl, rfl, trivial⟩
                first
                  | (have hk : okP (v 0 0) all (a : Int) (i : Int) = true := hiff.mpr (by omega)
                     simp only [parB]
                     rw [if_pos hk]
                     rw [hd] at hI2
                     exact hI2)
                  | (have hk : ¬ okP (v 0 0) all (a : Int) (i : Int) = true := fun h => by { have := hiff.mp h; omega }
                     simp only [parB]
                     rw [if_neg hk]
                     exact hr)
            · refine J_iconst 94 dX9_parts_93 rfl ?_
              refine J_goto 98 dX9_parts_94 rfl ?_
              refine J_istore 100 dX9_parts_98 rfl (by decide) ?_
              refine J_iload 102 dX9_parts_100 rfl rfl ?_
              refine J_if_eq 113 105 dX9_parts_102 rfl rfl (fun c25 => ?_) (fun c25 => ?_)
              · refine J_iinc 116 dX9_parts_113 rfl (by decide) rfl ?_
                refine J_goto 47 dX9_parts_116 rfl ?_
                refine J.wk (ih (i + 1) (d + 1) _ (by omega) (by omega) ?_) ⟨rfl, rfl, rfl, rfl, trivial⟩
                first
                  | (have hk : okP (v 0 0) all (a : Int) (i : Int) = true := hiff.mpr (by omega)
                     simp only [parB]
                     rw [if_pos hk]
                     rw [hd] at hI2
                     exact hI2)
                  | (have hk : ¬ okP (v 0 0) all (a : Int) (i : Int) = true := fun h => by { have := hiff.mp h; omega }
                     simp only [parB]
                     rw [if_neg hk]
                     exact hr)
              · refine J_aload_n (i := 0) 106 dX9_parts_105 rfl rfl rfl ?_
                refine J_iload_n (i := 2) 107 dX9_parts_106 rfl rfl rfl ?_
                refine J_iload_n (i := 3) 108 dX9_parts_107 rfl rfl rfl ?_
                refine J_iload 110 dX9_parts_108 rfl rfl ?_
                refine J_callVv 113 dX9_parts_110 rfl kX9_272 mX9_triesParts rfl rfl rfl (c_X9_triesParts hok hr) (by first | decide | omega) rfl rfl (Nat.le_of_ble_eq_true rfl) (fun s28 h26 => ?_)
                have hI2 := h26
                refine J_iinc 116 dX9_parts_113 rfl (by decide) rfl ?_
                refine J_goto 47 dX9_parts_116 rfl ?_
                refine J.wk (ih (i + 1) (d + 1) _ (by omega) (by omega) ?_) ⟨rfl, rfl, rfl, rfl, trivial⟩
                first
                  | (have hk : okP (v 0 0) all (a : Int) (i : Int) = true := hiff.mpr (by omega)
                     simp only [parB]
                     rw [if_pos hk]
                     rw [hd] at hI2
                     exact hI2)
                  | (have hk : ¬ okP (v 0 0) all (a : Int) (i : Int) = true := fun h => by { have := hiff.mp h; omega }
                     simp only [parB]
                     rw [if_neg hk]
                     exact hr)
        · refine J_iload_n (i := 3) 77 dX9_parts_76 rfl rfl rfl ?_
          refine J_if_ne 97 80 dX9_parts_77 rfl rfl (fun c29 => ?_) (fun c29 => ?_)
          · refine J_iconst 98 dX9_parts_97 rfl ?_
            refine J_istore 100 dX9_parts_98 rfl (by decide) ?_
            refine J_iload 102 dX9_parts_100 rfl rfl ?_
            refine J_if_eq 113 105 dX9_parts_102 rfl rfl (fun c30 => ?_) (fun c30 => ?_)
            · refine J_iinc 116 dX9_parts_113 rfl (by decide) rfl ?_
              refine J_goto 47 dX9_parts_116 rfl ?_
              refine J.wk (ih (i + 1) (d + 1) _ (by omega) (by omega) ?_) ⟨rfl, rfl, rfl, rfl, trivial⟩
              first
                | (have hk : okP (v 0 0) all (a : Int) (i : Int) = true := hiff.mpr (by omega)
                   simp only [parB]
                   rw [if_pos hk]
                   rw [hd] at hI2
                   exact hI2)
                | (have hk : ¬ okP (v 0 0) all (a : Int) (i : Int) = true := fun h => by { have := hiff.mp h; omega }
                   simp only [parB]
                   rw [if_neg hk]
                   exact hr)
            · refine J_aload_n (i := 0) 106 dX9_parts_105 rfl rfl rfl ?_
              refine J_iload_n (i := 2) 107 dX9_parts_106 rfl rfl rfl ?_
              refine J_iload_n (i := 3) 108 dX9_parts_107 rfl rfl rfl ?_
              refine J_iload 110 dX9_parts_108 rfl rfl ?_
              refine J_callVv 113 dX9_parts_110 rfl kX9_272 mX9_triesParts rfl rfl rfl (c_X9_triesParts hok hr) (by first | decide | omega) rfl rfl (Nat.le_of_ble_eq_true rfl) (fun s33 h31 => ?_)
              have hI2 := h31
              refine J_iinc 116 dX9_parts_113 rfl (by decide) rfl ?_
              refine J_goto 47 dX9_parts_116 rfl ?_
              refine J.wk (ih (i + 1) (d + 1) _ (by omega) (by omega) ?_) ⟨rfl, rfl, rfl, rfl, trivial⟩
              first
                | (have hk : okP (v 0 0) all (a : Int) (i : Int) = true := hiff.mpr (by omega)
                   simp only [parB]
                   rw [if_pos hk]
                   rw [hd] at hI2
                   exact hI2)
                | (have hk : ¬ okP (v 0 0) all (a : Int) (i : Int) = true := fun h => by { have := hiff.mp h; omega }
                   simp only [parB]
                   rw [if_neg hk]
                   exact hr)
          · refine J_aload_n (i := 0) 81 dX9_parts_80 rfl rfl rfl ?_
            refine J_getI (jz := 1) (lo := 0) (hi := 3) 84 dX9_parts_81 rfl fX9_111 rfl rfl rfl rfl (fun b34 b35 => ?_)
            refine J_iconst 85 dX9_parts_84 rfl ?_
            refine J_icmp_gt 93 88 dX9_parts_85 rfl rfl (fun c36 => ?_) (fun c36 => ?_)
            · refine J_iconst 94 dX9_parts_93 rfl ?_
              refine J_goto 98 dX9_parts_94 rfl ?_
              refine J_istore 100 dX9_parts_98 rfl (by decide) ?_
              refine J_iload 102 dX9_parts_100 rfl rfl ?_
              refine J_if_eq 113 105 dX9_parts_102 rfl rfl (fun c37 => ?_) (fun c37 => ?_)
              · refine J_iinc 116 dX9_parts_113 rfl (by decide) rfl ?_
                refine J_goto 47 dX9_parts_116 rfl ?_
                refine J.wk (ih (i + 1) (d + 1) _ (by omega) (by omega) ?_) ⟨rfl, rfl, rfl, rfl, trivial⟩
                first
                  | (have hk : okP (v 0 0) all (a : Int) (i : Int) = true := hiff.mpr (by omega)
                     simp only [parB]
                     rw [if_pos hk]
                     rw [hd] at hI2
                     exact hI2)
                  | (have hk : ¬ okP (v 0 0) all (a : Int) (i : Int) = true := fun h => by { have := hiff.mp h; omega }
                     simp only [parB]
                     rw [if_neg hk]
                     exact hr)
              · refine J_aload_n (i := 0) 106 dX9_parts_105 rfl rfl rfl ?_
                refine J_iload_n (i := 2) 107 dX9_parts_106 rfl rfl rfl ?_
                refine J_iload_n (i := 3) 108 dX9_parts_107 rfl rfl rfl ?_
                refine J_iload 110 dX9_parts_108 rfl rfl ?_
                refine J_callVv 113 dX9_parts_110 rfl kX9_272 mX9_triesParts rfl rfl rfl (c_X9_triesParts hok hr) (by first | decide | omega) rfl rfl (Nat.le_of_ble_eq_true rfl) (fun s40 h38 => ?_)
                have hI2 := h38
                refine J_iinc 116 dX9_parts_113 rfl (by decide) rfl ?_
                refine J_goto 47 dX9_parts_116 rfl ?_
                refine J.wk (ih (i + 1) (d + 1) _ (by omega) (by omega) ?_) ⟨rfl, rfl, rfl, rfl, trivial⟩
                first
                  | (have hk : okP (v 0 0) all (a : Int) (i : Int) = true := hiff.mpr (by omega)
                     simp only [parB]
                     rw [if_pos hk]
                     rw [hd] at hI2
                     exact hI2)
                  | (have hk : ¬ okP (v 0 0) all (a : Int) (i : Int) = true := fun h => by { have := hiff.mp h; omega }
                     simp only [parB]
                     rw [if_neg hk]
                     exact hr)
            · refine J_iload 90 dX9_parts_88 rfl rfl ?_
              refine J_if_ne 97 93 dX9_parts_90 rfl rfl (fun c41 => ?_) (fun c41 => ?_)
              · refine J_iconst 98 dX9_parts_97 rfl ?_
                refine J_istore 100 dX9_parts_98 rfl (by decide) ?_
                refine J_iload 102 dX9_parts_100 rfl rfl ?_
                refine J_if_eq 113 105 dX9_parts_102 rfl rfl (fun c42 => ?_) (fun c42 => ?_)
                · refine J_iinc 116 dX9_parts_113 rfl (by decide) rfl ?_
                  refine J_goto 47 dX9_parts_116 rfl ?_
                  refine J.wk (ih (i + 1) (d + 1) _ (by omega) (by omega) ?_) ⟨rfl, rfl, rfl, rfl, trivial⟩
                  first
                    | (have hk : okP (v 0 0) all (a : Int) (i : Int) = true := hiff.mpr (by omega)
                       simp only [parB]
                       rw [if_pos hk]
                       rw [hd] at hI2
                       exact hI2)
                    | (have hk : ¬ okP (v 0 0) all (a : Int) (i : Int) = true := fun h => by { have := hiff.mp h; omega }
                       simp only [parB]
                       rw [if_neg hk]
                       exact hr)
                · refine J_aload_n (i := 0) 106 dX9_parts_105 rfl rfl rfl ?_
                  refine J_iload_n (i := 2) 107 dX9_parts_106 rfl rfl rfl ?_
                  refine J_iload_n (i := 3) 108 dX9_parts_107 rfl rfl rfl ?_
                  refine J_iload 110 dX9_parts_108 rfl rfl ?_
                  refine J_callVv 113 dX9_parts_110 rfl kX9_272 mX9_triesParts rfl rfl rfl (c_X9_triesParts hok hr) (by first | decide | omega) rfl rfl (Nat.le_of_ble_eq_true rfl) (fun s45 h43 => ?_)
                  have hI2 := h43
                  refine J_iinc 116 dX9_parts_113 rfl (by decide) rfl ?_
                  refine J_goto 47 dX9_parts_116 rfl ?_
                  refine J.wk (ih (i + 1) (d + 1) _ (by omega) (by omega) ?_) ⟨rfl, rfl, rfl, rfl, trivial⟩
                  first
                    | (have hk : okP (v 0 0) all (a : Int) (i : Int) = true := hiff.mpr (by omega)
                       simp only [parB]
                       rw [if_pos hk]
                       rw [hd] at hI2
                       exact hI2)
                    | (have hk : ¬ okP (v 0 0) all (a : Int) (i : Int) = true := fun h => by { have := hiff.mp h; omega }
                       simp only [parB]
                       rw [if_neg hk]
                       exact hr)
              · refine J_iconst 94 dX9_parts_93 rfl ?_
                refine J_goto 98 dX9_parts_94 rfl ?_
                refine J_istore 100 dX9_parts_98 rfl (by decide) ?_
                refine J_iload 102 dX9_parts_100 rfl rfl ?_
                refine J_if_eq 113 105 dX9_parts_102 rfl rfl (fun c46 => ?_) (fun c46 => ?_)
                · refine J_iinc 116 dX9_parts_113 rfl (by decide) rfl ?_
                  refine J_goto 47 dX9_parts_116 rfl ?_
                  refine J.wk (ih (i + 1) (d + 1) _ (by omega) (by omega) ?_) ⟨rfl, rfl, rfl, rfl, trivial⟩
                  first
                    | (have hk : okP (v 0 0) all (a : Int) (i : Int) = true := hiff.mpr (by omega)
                       simp only [parB]
                       rw [if_pos hk]
                       rw [hd] at hI2
                       exact hI2)
                    | (have hk : ¬ okP (v 0 0) all (a : Int) (i : Int) = true := fun h => by { have := hiff.mp h; omega }
                       simp only [parB]
                       rw [if_neg hk]
                       exact hr)
                · refine J_aload_n (i := 0) 106 dX9_parts_105 rfl rfl rfl ?_
                  refine J_iload_n (i := 2) 107 dX9_parts_106 rfl rfl rfl ?_
                  refine J_iload_n (i := 3) 108 dX9_parts_107 rfl rfl rfl ?_
                  refine J_iload 110 dX9_parts_108 rfl rfl ?_
                  refine J_callVv 113 dX9_parts_110 rfl kX9_272 mX9_triesParts rfl rfl rfl (c_X9_triesParts hok hr) (by first | decide | omega) rfl rfl (Nat.le_of_ble_eq_true rfl) (fun s49 h47 => ?_)
                  have hI2 := h47
                  refine J_iinc 116 dX9_parts_113 rfl (by decide) rfl ?_
                  refine J_goto 47 dX9_parts_116 rfl ?_
                  refine J.wk (ih (i + 1) (d + 1) _ (by omega) (by omega) ?_) ⟨rfl, rfl, rfl, rfl, trivial⟩
                  first
                    | (have hk : okP (v 0 0) all (a : Int) (i : Int) = true := hiff.mpr (by omega)
                       simp only [parB]
                       rw [if_pos hk]
                       rw [hd] at hI2
                       exact hI2)
                    | (have hk : ¬ okP (v 0 0) all (a : Int) (i : Int) = true := fun h => by { have := hiff.mp h; omega }
                       simp only [parB]
                       rw [if_neg hk]
                       exact hr)
set_option maxHeartbeats 4000000 in
theorem l_X9_partsA {all : Int} {F : jS → Prop} (hok : okG σ) (hg : 0 < σ 36 1) (hv : v 0 0 = σ 36 1) (hall : 0 ≤ all ∧ all ≤ 27) (hK : ∀ τ τ2 : jS, prI σ v (parA v all 10) τ → bkI τ (τ 36 1) (τ 36 2) τ2 → F τ2) : ∀ (k i : Nat) (d : Int) (τ : jS), i + k = 10 → d = i → prI σ v (parA v all i) τ → J P 7 (RX9, cX9_parts, 6, none) 39 [some (vr P 36), some (vi all), some (vi d), none, none, none] [] τ (qv F) := by
  intro k
  induction k with
  | zero =>
    intro i d τ hi hd hr
    rw [Nat.add_zero] at hi
    subst hi
    refine J_iload_n (i := 2) 40 dX9_parts_39 rfl rfl rfl ?_
    refine J_bipush 42 dX9_parts_40 rfl (by decide) ?_
    refine J_icmp_gt 125 45 dX9_parts_42 rfl rfl (fun c1 => ?_) (fun c1 => ?_)
    · refine J_aload_n (i := 0) 126 dX9_parts_125 rfl rfl rfl ?_
      refine J_callVv 129 dX9_parts_126 rfl kX9_246 mX9_bringsBack rfl rfl rfl (c_X9_bringsBack) (by first | decide | omega) rfl rfl (Nat.le_of_ble_eq_true rfl) (fun s4 h2 => ?_)
      have hb := h2
      refine J_vret dX9_parts_129 rfl ?_
      exact hK _ _ hr hb
    · exfalso; omega
  | succ k ih =>
    intro i d τ hi hd hr
    refine J_iload_n (i := 2) 40 dX9_parts_39 rfl rfl rfl ?_
    refine J_bipush 42 dX9_parts_40 rfl (by decide) ?_
    refine J_icmp_gt 125 45 dX9_parts_42 rfl rfl (fun c1 => ?_) (fun c1 => ?_)
    · exfalso; omega
    · refine J_iconst 46 dX9_parts_45 rfl ?_
      refine J_istore_n (i := 3) 47 dX9_parts_46 rfl rfl (by decide) ?_
      subst hd
      refine J.wk (l_X9_partsB hok hg hv hall (a := i) (by omega) (fun τ2 hI2 => ?_) 10 0 0 τ rfl rfl hr) ⟨rfl, rfl, rfl, rfl, trivial⟩
      refine J_iinc 122 dX9_parts_119 rfl (by decide) rfl ?_
      refine J_goto 39 dX9_parts_122 rfl ?_
      exact ih (i + 1) _ _ (by omega) rfl hI2
def pdQ (σ σ' : jS) : Prop := KR σ σ' ∧ σ' 36 29 = (parM (vR σ)).1 ∧ σ' 56 0 = (parM (vR σ)).2.1 ∧ σ' 56 1 = (parM (vR σ)).2.2.1 ∧ σ' 56 2 = (parM (vR σ)).2.2.2
theorem vR_kp {σ s : jS} (h : kpI σ (σ 36 1) (σ 36 2) s) : vR s = vR σ := vR_congr (fun j _ => h.2.2.1 (j + 1) (by omega) (by omega)) (fun q _ => h.2.2.2.2.2 q (by omega) (by omega) (by omega) (by omega))
theorem okG_kp {σ s : jS} (h : kpI σ (σ 36 1) (σ 36 2) s) (hok : okG σ) : okG s := okG_of hok (h.2.2.1 1 (by omega) (by omega)) (h.2.2.1 2 (by omega) (by omega)) (h.2.2.2.2.2 41 (by omega) (by omega) (by omega) (by omega))
set_option maxHeartbeats 4000000 in
theorem l_X9_partsS (hok : okG σ) (hg : 0 < σ 36 1) : ∀ (k i : Nat) (d r : Int), i + k = gM (vR σ) → d = i → r = sumN (vR σ 1) i → J P 7 (RX9, cX9_parts, 6, none) 4 [some (vr P 36), some (vi r), some (vi d), none, none, none] [] σ (qv (pdQ σ)) := by
  intro k
  induction k with
  | zero =>
    intro i d r hi hd hr
    refine J.bd (fun hB => ?_)
    have hvB := vR_B hB
    have e2 : gM (vR σ) = (σ 36 1).toNat := rfl
    have hg3 : 0 ≤ σ 36 1 ∧ σ 36 1 ≤ 3 := hB 36 1
    have hsb := sumN_b hvB.2.2.2.2.1 i
    have hrr : r = sumN (vR σ 1) (gM (vR σ)) := by rw [Nat.add_zero] at hi; rw [hr, hi]
    refine J_iload_n (i := 2) 5 dX9_parts_4 rfl rfl rfl ?_
    refine J_aload_n (i := 0) 6 dX9_parts_5 rfl rfl rfl ?_
    refine J_getI (jz := 1) (lo := 0) (hi := 3) 9 dX9_parts_6 rfl fX9_111 rfl rfl rfl rfl (fun b1 b2 => ?_)
    refine J_icmp_ge 27 12 dX9_parts_9 rfl rfl (fun c3 => ?_) (fun c3 => ?_)
    · refine J_aload_n (i := 0) 28 dX9_parts_27 rfl rfl rfl ?_
      refine J_callVv 31 dX9_parts_28 rfl kX9_240 mX9_keeps rfl rfl rfl (c_X9_keeps) (by first | decide | omega) rfl rfl (Nat.le_of_ble_eq_true rfl) (fun s6 h4 => ?_)
      have hkp := h4
      have evR := vR_kp hkp
      have hok1 := okG_kp hkp hok
      have e1g := hkp.2.2.1 1 (by omega) (by omega)
      have hne := parM_ne hvB hg
      refine J_aload_n (i := 0) 32 dX9_parts_31 rfl rfl rfl ?_
      refine J_bipush 34 dX9_parts_32 rfl (by decide) ?_
      refine J_putI (jz := 29) (lo := 0) (hi := 99) 37 dX9_parts_34 rfl gX9_269 rfl rfl rfl rfl ?_
      refine J_iconst 38 dX9_parts_37 rfl ?_
      refine J_istore_n (i := 2) 39 dX9_parts_38 rfl rfl (by decide) ?_
      have hup : ∀ s : jS, vR (jup s 36 29 99) = vR s := fun s => vR_congr (fun j _ => jup_ne2 (by omega)) (fun q _ => jup_ne (by omega))
      refine l_X9_partsA (v := vR σ) (okG_of hok1 rfl rfl rfl) (by rw [← e1g] at hg; exact hg) (by rw [← evR]; rfl) (by omega) (fun τ τ2 hI hb => ?_) 10 0 _ _ rfl rfl ⟨rfl, fun h => absurd rfl h, fun x y z => by rw [hup, evR], rfl, BDY_up (by omega)⟩
      rw [hrr] at hI
      have hI : prI _ (vR σ) (parM (vR σ)) τ := hI
      have h56 : τ2 56 = τ 56 := hb.2.2.2.2.2 56 (by omega) (by omega) (by omega) (by omega)
      have h3 := hI.2.1 hne
      refine ⟨KR_back hkp hI.2.2.2.2 hb, ?_, ?_, ?_, ?_⟩
      · rw [hb.2.2.1 29 (by omega) (by omega), hI.1, if_neg hne]
      · rw [h56]; exact h3.1
      · rw [h56]; exact h3.2.1
      · rw [h56]; exact h3.2.2
    · exfalso; omega
  | succ k ih =>
    intro i d r hi hd hr
    refine J.bd (fun hB => ?_)
    have hvB := vR_B hB
    have e2 : gM (vR σ) = (σ 36 1).toNat := rfl
    have hg3 : 0 ≤ σ 36 1 ∧ σ 36 1 ≤ 3 := hB 36 1
    have hsb := sumN_b hvB.2.2.2.2.1 i
    refine J_iload_n (i := 2) 5 dX9_parts_4 rfl rfl rfl ?_
    refine J_aload_n (i := 0) 6 dX9_parts_5 rfl rfl rfl ?_
    refine J_getI (jz := 1) (lo := 0) (hi := 3) 9 dX9_parts_6 rfl fX9_111 rfl rfl rfl rfl (fun b1 b2 => ?_)
    refine J_icmp_ge 27 12 dX9_parts_9 rfl rfl (fun c3 => ?_) (fun c3 => ?_)
    · exfalso; omega
    · refine J_iload_n (i := 1) 13 dX9_parts_12 rfl rfl rfl ?_
      refine J_aload_n (i := 0) 14 dX9_parts_13 rfl rfl rfl ?_
      refine J_getR 17 dX9_parts_14 rfl fX9_7 rfl rfl ?_
      refine J_iload_n (i := 2) 18 dX9_parts_17 rfl rfl rfl ?_
      refine J_iald (N := 3) (lo := 0) (hi := 9) 19 dX9_parts_18 rfl rfl rfl rfl (fun b4 b5 => ?_)
      refine J_iadd 20 dX9_parts_19 rfl ?_
      refine J_istore_n (i := 1) 21 dX9_parts_20 rfl rfl (by decide) ?_
      refine J_iinc 24 dX9_parts_21 rfl (by decide) rfl ?_
      refine J_goto 4 dX9_parts_24 rfl ?_
      refine ih (i + 1) _ _ (by omega) (by omega) ?_
      rw [hr, hd]
      rfl
theorem c_X9_parts (hok : okG σ) (hg : 0 < σ 36 1) : Ct P 7 yX9_parts cX9_parts 6 none [vr P 36] σ (qv (pdQ σ)) := by
  refine Ct.of _ rfl rfl rfl (Nat.le_of_ble_eq_true rfl) (fun hB => ?_)
  refine J_iconst 1 dX9_parts_0 rfl ?_
  refine J_istore_n (i := 1) 2 dX9_parts_1 rfl rfl (by decide) ?_
  refine J_iconst 3 dX9_parts_2 rfl ?_
  refine J_istore_n (i := 2) 4 dX9_parts_3 rfl rfl (by decide) ?_
  exact l_X9_partsS hok hg _ 0 _ _ (Nat.zero_add _) rfl rfl
theorem okG_pos (hok : okG σ) (hB : jBd σ) (hn : 0 < σ 36 2) : 0 < σ 36 1 := by
  have h1 := hok 0 (by omega) hn
  have h2 : 0 ≤ σ 41 0 ∧ σ 41 0 ≤ 2 := hB 41 0
  omega
set_option maxHeartbeats 4000000 in
theorem c_X9_parted (hok : okG σ) (hx : inR x) : Ct P 8 yX9_parted cX9_parted 2 (some .int) [vr P 36, vi x] σ (qi fun z σ' => aParted (σ 36 1) (σ 36 2) (parM (vR σ)) x = z ∧ KR σ σ') := by
  refine Ct.bd (fun hB => ?_)
  have hn : 0 ≤ σ 36 2 ∧ σ 36 2 ≤ 6 := hB 36 2
  have hg3 : 0 ≤ σ 36 1 ∧ σ 36 1 ≤ 3 := hB 36 1
  refine Ct.of _ rfl rfl rfl (Nat.le_of_ble_eq_true rfl) (fun hB => ?_)
  refine J_iload_n (i := 1) 1 dX9_parted_0 rfl rfl rfl ?_
  refine J_i2l 2 dX9_parted_1 rfl ?_
  refine J_ldc2 5 dX9_parted_2 rfl cstX9_276 ?_
  refine J_ldc2 8 dX9_parted_5 rfl cstX9_153 ?_
  refine J_callSi 11 dX9_parted_8 rfl kX9_107 mX9_in (c_X9_in) (by first | decide | omega) rfl rfl (Nat.le_of_ble_eq_true rfl) (fun z2 s3 h1 => ?_)
  obtain ⟨rfl, rfl⟩ := h1
  refine J_bif_ne 17 14 dX9_parted_11 rfl rfl (fun c4 => ?_) (fun c4 => ?_)
  · refine J_aload_n (i := 0) 18 dX9_parted_17 rfl rfl rfl ?_
    refine J_getI (jz := 2) (lo := 0) (hi := 6) 21 dX9_parted_18 rfl fX9_104 rfl rfl rfl rfl (fun b5 b6 => ?_)
    refine J_if_ne 27 24 dX9_parted_21 rfl rfl (fun c7 => ?_) (fun c7 => ?_)
    · refine J_aload_n (i := 0) 28 dX9_parted_27 rfl rfl rfl ?_
      refine J_callVv 31 dX9_parted_28 rfl kX9_278 mX9_parts rfl rfl rfl (c_X9_parts hok (okG_pos hok hB (by omega))) (by first | decide | omega) rfl rfl (Nat.le_of_ble_eq_true rfl) (fun s10 h8 => ?_)
      have hp := h8
      have e1 := hp.1.2.1 1 (by omega)
      have hg0 := okG_pos hok hB (by omega)
      refine J_iload_n (i := 1) 32 dX9_parted_31 rfl rfl rfl ?_
      refine J_if_ge 42 35 dX9_parted_32 rfl rfl (fun c11 => ?_) (fun c11 => ?_)
      · refine J_aload_n (i := 0) 43 dX9_parted_42 rfl rfl rfl ?_
        refine J_iload_n (i := 1) 44 dX9_parted_43 rfl rfl rfl ?_
        refine J_callVi 47 dX9_parted_44 rfl kX9_189 mX9_noGate rfl rfl rfl (c_X9_noGate) (by first | decide | omega) rfl rfl (Nat.le_of_ble_eq_true rfl) (fun z13 s14 h12 => ?_)
        obtain ⟨rfl, rfl⟩ := h12
        refine J_bif_eq 55 50 dX9_parted_47 rfl rfl (fun c15 => ?_) (fun c15 => ?_)
        · refine J_aload_n (i := 0) 56 dX9_parted_55 rfl rfl rfl ?_
          refine J_getR 59 dX9_parted_56 rfl fX9_67 rfl rfl ?_
          refine J_iload_n (i := 1) 60 dX9_parted_59 rfl rfl rfl ?_
          refine J_iald (N := 3) (lo := 0) (hi := 9) 61 dX9_parted_60 rfl rfl rfl rfl (fun b16 b17 => ?_)
          refine J_iret dX9_parted_61 rfl ?_
          refine ⟨?_, hp.1⟩
          unfold aParted
          rw [if_neg (by omega), if_neg (by omega)]
          first
            | (rw [if_neg (by omega), if_pos (by omega)]; exact hp.2.1.symm)
            | (rw [if_pos (by omega)]; done)
            | (rw [if_neg (by omega), if_neg (by omega)]
               rcases (show x = 0 ∨ x = 1 ∨ x = 2 by omega) with rfl | rfl | rfl
               · exact hp.2.2.1.symm
               · exact hp.2.2.2.1.symm
               · exact hp.2.2.2.2.symm)
        · refine J_bipush 52 dX9_parted_50 rfl (by decide) ?_
          refine J_goto 61 dX9_parted_52 rfl ?_
          refine J_iret dX9_parted_61 rfl ?_
          refine ⟨?_, hp.1⟩
          unfold aParted
          rw [if_neg (by omega), if_neg (by omega)]
          first
            | (rw [if_neg (by omega), if_pos (by omega)]; exact hp.2.1.symm)
            | (rw [if_pos (by omega)]; done)
            | (rw [if_neg (by omega), if_neg (by omega)]
               rcases (show x = 0 ∨ x = 1 ∨ x = 2 by omega) with rfl | rfl | rfl
               · exact hp.2.2.1.symm
               · exact hp.2.2.2.1.symm
               · exact hp.2.2.2.2.symm)
      · refine J_aload_n (i := 0) 36 dX9_parted_35 rfl rfl rfl ?_
        refine J_getI (jz := 29) (lo := 0) (hi := 99) 39 dX9_parted_36 rfl fX9_269 rfl rfl rfl rfl (fun b18 b19 => ?_)
        refine J_goto 61 dX9_parted_39 rfl ?_
        refine J_iret dX9_parted_61 rfl ?_
        refine ⟨?_, hp.1⟩
        unfold aParted
        rw [if_neg (by omega), if_neg (by omega)]
        first
          | (rw [if_neg (by omega), if_pos (by omega)]; exact hp.2.1.symm)
          | (rw [if_pos (by omega)]; done)
          | (rw [if_neg (by omega), if_neg (by omega)]
             rcases (show x = 0 ∨ x = 1 ∨ x = 2 by omega) with rfl | rfl | rfl
             · exact hp.2.2.1.symm
             · exact hp.2.2.2.1.symm
             · exact hp.2.2.2.2.symm)
    · refine J_bipush 26 dX9_parted_24 rfl (by decide) ?_
      refine J_iret dX9_parted_26 rfl ?_
      refine ⟨?_, KR_G3 (fun _ _ _ _ => rfl)⟩
      unfold aParted
      rw [if_neg (by omega), if_pos (by omega)]
  · refine J_bipush 16 dX9_parted_14 rfl (by decide) ?_
    refine J_iret dX9_parted_16 rfl ?_
    refine ⟨?_, KR_G3 (fun _ _ _ _ => rfl)⟩
    unfold aParted
    rw [if_pos (by omega)]
end

