/-! ===== a winter by a text; days ===== -/
def setW (σ V : jS) (k : Nat) (j : Int) : Int := if 1 ≤ k ∧ k ≤ 7 then V (k - 1) j else σ k j
def pV (σ : jS) (w : Nat) (i n : Int) : Int × Int × jS := pE (σ (w + 1)) i (beginV (vC σ 8)) n.toNat
def aWinter (σ : jS) (w : Nat) (k l i n : Int) : Int := if ¬ (0 ≤ k ∧ k < 4) then -1 else if ¬ (0 ≤ l ∧ l ≤ 2) then -2 else if ¬ faultM (σ w 1) (σ w 2) l i n = 0 then -10 - faultM (σ w 1) (σ w 2) l i n else if ¬ readR (σ (w + 1)) i (beginV (vC σ 8)) n.toNat = -9 then -100 - readR (σ (w + 1)) i (beginV (vC σ 8)) n.toNat else (pV σ w i n).2.2 0 1
def sWinter (σ : jS) (w : Nat) (k l i n : Int) : jS := if ¬ (0 ≤ k ∧ k < 4) then jup σ 0 10 0 else if ¬ (0 ≤ l ∧ l ≤ 2) then jup σ 0 10 0 else if ¬ faultM (σ w 1) (σ w 2) l i n = 0 then jup σ 0 10 (faultM (σ w 1) (σ w 2) l i n) else if ¬ readR (σ (w + 1)) i (beginV (vC σ 8)) n.toNat = -9 then jup σ 0 10 0 else jup (jset (setW (jup σ 0 10 0) (pV σ w i n).2.2) 17 (fun _ => 0)) 24 2 0
theorem readR_b (f : Int → Int) (i : Int) (v : jS) (n : Nat) : -9 ≤ readR f i v n ∧ readR f i v n ≤ n := by
  have h := pE_b f i v n
  unfold readR
  split
  · omega
  · split <;> omega
theorem readR_9 {f : Int → Int} {i : Int} {v : jS} {n : Nat} (h : readR f i v n = -9) : (pE f i v n).1 = -1 := by
  have hb := pE_b f i v n
  unfold readR at h
  by_cases h1 : ¬ (pE f i v n).1 = -1
  · rw [if_pos h1] at h; omega
  · exact Decidable.not_not.mp h1
section
variable {P : jP} {w o : Nat} {a b c d g x y z n s i j k l : Int} {σ τ v : jS}
set_option maxHeartbeats 8000000 in
theorem c_X8_winter (hw : w = sc x) (hx : inR x) (hl : inR l) (hi : inR i) (hn : inR n) : Ct P 5 yX8_winter cX8_winter 8 (some .int) [vr P 0, vi x, vi l, vi i, vi n] σ (qi fun z σ' => aWinter σ w x l i n = z ∧ F8 (sWinter σ w x l i n) σ') := by
  refine Ct.bd (fun hB => ?_)
  unfold aWinter sWinter
  have hfb := faultM_b (σ w 1) (σ w 2) l i n
  have hf0 := faultM_0 (sl := σ w 1) (len := σ w 2) (l := l) (i := i) (n := n)
  by_cases hx4 : 0 ≤ x ∧ x < 4
  · have hlb := len_b hB (w := w) (by unfold sc at hw; omega)
    have hw4 : w = 28 ∨ w = 30 ∨ w = 32 ∨ w = 34 := by unfold sc at hw; omega
    by_cases hn0 : 0 ≤ n
    · obtain ⟨N, rfl⟩ : ∃ N : Nat, n = (N : Int) := ⟨n.toNat, by omega⟩
      have hrb := readR_b (σ (w + 1)) i (beginV (vC σ 8)) N
      have h9 := readR_9 (f := σ (w + 1)) (i := i) (v := beginV (vC σ 8)) (n := N)
      have ev : vC (jup σ 0 10 0) 8 = vC σ 8 := vC_up_ne _ _ _ _ _ (by omega)
      have ew : (jup σ 0 10 0) (w + 1) = σ (w + 1) := by funext q; unfold jup; rw [if_neg (by omega)]
      have hpV : pV σ w i (N : Int) = pE (σ (w + 1)) i (beginV (vC σ 8)) N := by unfold pV; rw [Int.toNat_natCast]
      have eN : ((N : Int)).toNat = N := Int.toNat_natCast N
      have hfin : ∀ ρ : jS, (∀ q, (q < 8 ∨ 14 < q) → ρ q = (jup σ 0 10 0) q) → vC ρ 8 = (pE (σ (w + 1)) i (beginV (vC σ 8)) N).2.2 → F8 (jup (jset (setW (jup σ 0 10 0) (pE (σ (w + 1)) i (beginV (vC σ 8)) N).2.2) 17 (fun _ => 0)) 24 2 0) (jup (jset (jbec ρ 1 8) 17 (fun _ => 0)) 24 2 0) := by
        intro ρ hρ hv q hq
        funext j
        have hv2 : ∀ m : Nat, m ≤ 6 → ρ (8 + m) j = (pE (σ (w + 1)) i (beginV (vC σ 8)) N).2.2 m j := by
          intro i' hi'
          rw [← hv]
          unfold vC
          rw [if_pos hi']
        have e1 : jbec ρ 1 8 q j = setW (jup σ 0 10 0) (pE (σ (w + 1)) i (beginV (vC σ 8)) N).2.2 q j := by
          unfold jbec setW
          by_cases hq7 : 1 ≤ q ∧ q ≤ 7
          · rw [if_pos (by omega), if_pos hq7, ← hv2 (q - 1) (by omega)]
            congr 1
            omega
          · rw [if_neg (by omega), if_neg hq7, hρ q hq]
        unfold jup jset
        by_cases h24 : q = 24
        · rw [if_pos h24, if_pos h24]
          by_cases hj : j = 2
          · rw [if_pos hj, if_pos hj]
          · rw [if_neg hj, if_neg hj]
            by_cases h17 : q = 17
            · rw [if_pos h17, if_pos h17]
            · rw [if_neg h17, if_neg h17]; exact e1
        · rw [if_neg h24, if_neg h24]
          by_cases h17 : q = 17
          · rw [if_pos h17, if_pos h17]
          · rw [if_neg h17, if_neg h17]; exact e1
      rw [hpV, eN]
      have hcc : ∀ ρ : jS, vC ρ 8 = (pE (σ (w + 1)) i (beginV (vC σ 8)) N).2.2 → ρ 8 1 = (pE (σ (w + 1)) i (beginV (vC σ 8)) N).2.2 0 1 := fun ρ h => by rw [← h]; rfl
      rcases sc4 hw hx4 with ⟨rfl, rfl⟩ | ⟨rfl, rfl⟩ | ⟨rfl, rfl⟩ | ⟨rfl, rfl⟩ <;> (
        simp only [Nat.reduceAdd] at hrb h9 ew hfin hcc ⊢
        refine Ct.of _ rfl rfl rfl (Nat.le_of_ble_eq_true rfl) (fun hB => ?_)
        refine J.guard (fun Q0 hQ0 => ?_)
        refine J_aload_n (i := 0) 1 dX8_winter_0 rfl rfl rfl ?_
        refine J_iconst 2 dX8_winter_1 rfl ?_
        refine J_putI (jz := 10) (lo := 0) (hi := 4) 5 dX8_winter_2 rfl gX8_74 rfl rfl rfl rfl ?_
        refine J_iload_n (i := 1) 6 dX8_winter_5 rfl rfl rfl ?_
        refine J_callSi 9 dX8_winter_6 rfl kX8_77 mX8_isSheet (c_X8_isSheet) (by first | decide | omega) rfl rfl (Nat.le_of_ble_eq_true rfl) (fun z2 s3 h1 => ?_)
        obtain ⟨rfl, rfl⟩ := h1
        refine J_bif_ne 14 12 dX8_winter_9 rfl rfl (fun c4 => ?_) (fun c4 => ?_)
        · refine J_iload_n (i := 2) 15 dX8_winter_14 rfl rfl rfl ?_
          refine J_callSi 18 dX8_winter_15 rfl kX8_81 mX8_isLane (c_X8_isLane) (by first | decide | omega) rfl rfl (Nat.le_of_ble_eq_true rfl) (fun z6 s7 h5 => ?_)
          obtain ⟨rfl, rfl⟩ := h5
          refine J_bif_ne 24 21 dX8_winter_18 rfl rfl (fun c8 => ?_) (fun c8 => ?_)
          · refine J_aload_n (i := 0) 25 dX8_winter_24 rfl rfl rfl ?_
            refine J_getR 28 dX8_winter_25 rfl fX8_66 rfl rfl ?_
            refine J_iload_n (i := 1) 29 dX8_winter_28 rfl rfl rfl ?_
            refine J_aald 30 dX8_winter_29 rfl ?_
            try simp only [Int.reduceToNat, Nat.reduceMul, Nat.reduceAdd]
            refine J_astore 32 dX8_winter_30 rfl (by decide) ?_
            refine J_aload 34 dX8_winter_32 rfl rfl ?_
            refine J_iload_n (i := 2) 35 dX8_winter_34 rfl rfl rfl ?_
            refine J_iload_n (i := 3) 36 dX8_winter_35 rfl rfl rfl ?_
            refine J_iload 38 dX8_winter_36 rfl rfl ?_
            refine J_callVi 41 dX8_winter_38 rfl kX8_84 mX5_faultAs rfl rfl rfl (c_X5_faultAs) (by first | decide | omega) rfl rfl (Nat.le_of_ble_eq_true rfl) (fun z10 s11 h9 => ?_)
            obtain ⟨rfl, rfl⟩ := h9
            refine J.top (e' := faultM (σ _ 1) (σ _ 2) l i (N : Int)) rfl ?_
            refine J_istore 43 dX8_winter_41 rfl (by decide) ?_
            refine J_iload 45 dX8_winter_43 rfl rfl ?_
            refine J_if_eq 55 48 dX8_winter_45 rfl rfl (fun c12 => ?_) (fun c12 => ?_)
            · have hf1 := hf0 (by omega)
              refine J_aload_n (i := 0) 56 dX8_winter_55 rfl rfl rfl ?_
              refine J_getR 59 dX8_winter_56 rfl fX8_24 rfl rfl ?_
              refine J_aload 61 dX8_winter_59 rfl rfl ?_
              refine J_iload_n (i := 3) 62 dX8_winter_61 rfl rfl rfl ?_
              refine J_iload 64 dX8_winter_62 rfl rfl ?_
              refine J_aload_n (i := 0) 65 dX8_winter_64 rfl rfl rfl ?_
              refine J_getR 68 dX8_winter_65 rfl fX8_18 rfl rfl ?_
              refine J_callVi 71 dX8_winter_68 rfl kX8_92 mX6_read rfl rfl rfl (c_X6_read (n := N) (i := i) (by omega) (by omega)) (by first | decide | omega) rfl rfl (Nat.le_of_ble_eq_true rfl) (fun z14 s15 h13 => ?_)
              obtain ⟨q1, q2, q3⟩ := h13
              rw [ev, ew] at q1 q2
              subst q1
              refine J_istore 73 dX8_winter_71 rfl (by decide) ?_
              refine J_iload 75 dX8_winter_73 rfl rfl ?_
              refine J_bipush 77 dX8_winter_75 rfl (by decide) ?_
              refine J_icmp_eq 86 80 dX8_winter_77 rfl rfl (fun c16 => ?_) (fun c16 => ?_)
              · refine J_aload_n (i := 0) 87 dX8_winter_86 rfl rfl rfl ?_
                refine J_getR 90 dX8_winter_87 rfl fX8_14 rfl rfl ?_
                refine J_aload_n (i := 0) 91 dX8_winter_90 rfl rfl rfl ?_
                refine J_getR 94 dX8_winter_91 rfl fX8_18 rfl rfl ?_
                refine J_callVv 97 dX8_winter_94 rfl kX8_96 mX7_become rfl rfl rfl (c_X7_become) (by first | decide | omega) rfl rfl (Nat.le_of_ble_eq_true rfl) (fun s19 h17 => ?_)
                obtain rfl := h17
                refine J_aload_n (i := 0) 98 dX8_winter_97 rfl rfl rfl ?_
                refine J_getR 101 dX8_winter_98 rfl fX8_31 rfl rfl ?_
                refine J_callVv 104 dX8_winter_101 rfl kX8_100 mX0_forget rfl rfl rfl (c_X0_forget) (by first | decide | omega) rfl rfl (Nat.le_of_ble_eq_true rfl) (fun s22 h20 => ?_)
                obtain rfl := h20
                refine J_aload_n (i := 0) 105 dX8_winter_104 rfl rfl rfl ?_
                refine J_getR 108 dX8_winter_105 rfl fX8_59 rfl rfl ?_
                refine J_iconst 109 dX8_winter_108 rfl ?_
                refine J_putI (jz := 2) (lo := 0) (hi := 8) 112 dX8_winter_109 rfl gX8_103 rfl rfl rfl rfl ?_
                refine J_aload_n (i := 0) 113 dX8_winter_112 rfl rfl rfl ?_
                refine J_getR 116 dX8_winter_113 rfl fX8_14 rfl rfl ?_
                refine J_getI (jz := 1) (lo := 0) (hi := 6) 119 dX8_winter_116 rfl fX8_106 rfl rfl rfl rfl (fun b23 b24 => ?_)
                subst hQ0
                refine J_iret dX8_winter_119 rfl ?_
                refine ⟨?_, ?_⟩
                · rw [if_neg (by omega), if_neg (by omega), if_neg (by omega), if_neg (by omega)]
                  exact (hcc _ (q2 (h9 (by omega)))).symm
                · rw [if_neg (by omega), if_neg (by omega), if_neg (by omega), if_neg (by omega)]
                  exact hfin _ q3 (q2 (h9 (by omega)))
              · refine J_bipush 82 dX8_winter_80 rfl (by decide) ?_
                refine J_iload 84 dX8_winter_82 rfl rfl ?_
                refine J_isub 85 dX8_winter_84 rfl ?_
                subst hQ0
                refine J_iret dX8_winter_85 rfl ?_
                refine ⟨?_, ?_⟩
                · rw [if_neg (by omega), if_neg (by omega), if_neg (by omega), if_pos (by omega)]
                · rw [if_neg (by omega), if_neg (by omega), if_neg (by omega), if_pos (by omega)]
                  exact q3
            · refine J_aload_n (i := 0) 49 dX8_winter_48 rfl rfl rfl ?_
              refine J_iload 51 dX8_winter_49 rfl rfl ?_
              refine J_callVi 54 dX8_winter_51 rfl kX8_88 mX8_faulted rfl rfl rfl (c_X8_faulted) (by first | decide | omega) rfl rfl (Nat.le_of_ble_eq_true rfl) (fun z26 s27 h25 => ?_)
              obtain ⟨rfl, rfl⟩ := h25
              subst hQ0
              refine J_iret dX8_winter_54 rfl ?_
              refine ⟨?_, ?_⟩
              · rw [if_neg (by omega), if_neg (by omega), if_pos (by omega)]
              · rw [if_neg (by omega), if_neg (by omega), if_pos (by omega), jup_jup]
                exact fun _ _ => rfl
          · refine J_bipush 23 dX8_winter_21 rfl (by decide) ?_
            subst hQ0
            refine J_iret dX8_winter_23 rfl ?_
            refine ⟨?_, ?_⟩
            · rw [if_neg (by omega), if_pos (by omega)]
            · rw [if_neg (by omega), if_pos (by omega)]
              exact fun _ _ => rfl
        · subst hQ0
          exfalso; omega
      )
    · have hf0n : ¬ faultM (σ w 1) (σ w 2) l i n = 0 := fun q => by have := hf0 q; omega
      rcases sc4 hw hx4 with ⟨rfl, rfl⟩ | ⟨rfl, rfl⟩ | ⟨rfl, rfl⟩ | ⟨rfl, rfl⟩ <;> (
        refine Ct.of _ rfl rfl rfl (Nat.le_of_ble_eq_true rfl) (fun hB => ?_)
        refine J.guard (fun Q0 hQ0 => ?_)
        refine J_aload_n (i := 0) 1 dX8_winter_0 rfl rfl rfl ?_
        refine J_iconst 2 dX8_winter_1 rfl ?_
        refine J_putI (jz := 10) (lo := 0) (hi := 4) 5 dX8_winter_2 rfl gX8_74 rfl rfl rfl rfl ?_
        refine J_iload_n (i := 1) 6 dX8_winter_5 rfl rfl rfl ?_
        refine J_callSi 9 dX8_winter_6 rfl kX8_77 mX8_isSheet (c_X8_isSheet) (by first | decide | omega) rfl rfl (Nat.le_of_ble_eq_true rfl) (fun z2 s3 h1 => ?_)
        obtain ⟨rfl, rfl⟩ := h1
        refine J_bif_ne 14 12 dX8_winter_9 rfl rfl (fun c4 => ?_) (fun c4 => ?_)
        · refine J_iload_n (i := 2) 15 dX8_winter_14 rfl rfl rfl ?_
          refine J_callSi 18 dX8_winter_15 rfl kX8_81 mX8_isLane (c_X8_isLane) (by first | decide | omega) rfl rfl (Nat.le_of_ble_eq_true rfl) (fun z6 s7 h5 => ?_)
          obtain ⟨rfl, rfl⟩ := h5
          refine J_bif_ne 24 21 dX8_winter_18 rfl rfl (fun c8 => ?_) (fun c8 => ?_)
          · refine J_aload_n (i := 0) 25 dX8_winter_24 rfl rfl rfl ?_
            refine J_getR 28 dX8_winter_25 rfl fX8_66 rfl rfl ?_
            refine J_iload_n (i := 1) 29 dX8_winter_28 rfl rfl rfl ?_
            refine J_aald 30 dX8_winter_29 rfl ?_
            try simp only [Int.reduceToNat, Nat.reduceMul, Nat.reduceAdd]
            refine J_astore 32 dX8_winter_30 rfl (by decide) ?_
            refine J_aload 34 dX8_winter_32 rfl rfl ?_
            refine J_iload_n (i := 2) 35 dX8_winter_34 rfl rfl rfl ?_
            refine J_iload_n (i := 3) 36 dX8_winter_35 rfl rfl rfl ?_
            refine J_iload 38 dX8_winter_36 rfl rfl ?_
            refine J_callVi 41 dX8_winter_38 rfl kX8_84 mX5_faultAs rfl rfl rfl (c_X5_faultAs) (by first | decide | omega) rfl rfl (Nat.le_of_ble_eq_true rfl) (fun z10 s11 h9 => ?_)
            obtain ⟨rfl, rfl⟩ := h9
            refine J.top (e' := faultM (σ _ 1) (σ _ 2) l i n) rfl ?_
            refine J_istore 43 dX8_winter_41 rfl (by decide) ?_
            refine J_iload 45 dX8_winter_43 rfl rfl ?_
            refine J_if_eq 55 48 dX8_winter_45 rfl rfl (fun c12 => ?_) (fun c12 => ?_)
            · subst hQ0
              exfalso; omega
            · refine J_aload_n (i := 0) 49 dX8_winter_48 rfl rfl rfl ?_
              refine J_iload 51 dX8_winter_49 rfl rfl ?_
              refine J_callVi 54 dX8_winter_51 rfl kX8_88 mX8_faulted rfl rfl rfl (c_X8_faulted) (by first | decide | omega) rfl rfl (Nat.le_of_ble_eq_true rfl) (fun z14 s15 h13 => ?_)
              obtain ⟨rfl, rfl⟩ := h13
              subst hQ0
              refine J_iret dX8_winter_54 rfl ?_
              refine ⟨?_, ?_⟩
              · rw [if_neg (by omega), if_neg (by omega), if_pos (by omega)]
              · rw [if_neg (by omega), if_neg (by omega), if_pos (by omega), jup_jup]
                exact fun _ _ => rfl
          · refine J_bipush 23 dX8_winter_21 rfl (by decide) ?_
            subst hQ0
            refine J_iret dX8_winter_23 rfl ?_
            refine ⟨?_, ?_⟩
            · rw [if_neg (by omega), if_pos (by omega)]
            · rw [if_neg (by omega), if_pos (by omega)]
              exact fun _ _ => rfl
        · subst hQ0
          exfalso; omega
      )
  · skip
    refine Ct.of _ rfl rfl rfl (Nat.le_of_ble_eq_true rfl) (fun hB => ?_)
    refine J_aload_n (i := 0) 1 dX8_winter_0 rfl rfl rfl ?_
    refine J_iconst 2 dX8_winter_1 rfl ?_
    refine J_putI (jz := 10) (lo := 0) (hi := 4) 5 dX8_winter_2 rfl gX8_74 rfl rfl rfl rfl ?_
    refine J_iload_n (i := 1) 6 dX8_winter_5 rfl rfl rfl ?_
    refine J_callSi 9 dX8_winter_6 rfl kX8_77 mX8_isSheet (c_X8_isSheet) (by first | decide | omega) rfl rfl (Nat.le_of_ble_eq_true rfl) (fun z2 s3 h1 => ?_)
    obtain ⟨rfl, rfl⟩ := h1
    refine J_bif_ne 14 12 dX8_winter_9 rfl rfl (fun c4 => ?_) (fun c4 => ?_)
    · exfalso; omega
    · refine J_iconst 13 dX8_winter_12 rfl ?_
      refine J_iret dX8_winter_13 rfl ?_
      refine ⟨if_pos (by omega), ?_⟩
      rw [if_pos (by omega)]
      exact fun _ _ => rfl
end

