/-! ===== the reference: shares, what is given ===== -/
section
variable {P : jP} {w o : Nat} {a b c d g x y z n s i j k l : Int} {σ τ v : jS}
set_option maxHeartbeats 4000000 in
theorem l_X9_share (ha : 0 ≤ a ∧ a ≤ 30) (hb : 0 ≤ b ∧ b ≤ 30) (hw : 0 ≤ s ∧ s ≤ 1) : ∀ (k : Nat) (x y : Int), 0 ≤ x ∧ x ≤ 30 → 0 ≤ y ∧ y ≤ 30 → ¬ (x = 0 ∧ y = 0) → y < k → J P 1 (RX9, cX9_share, 11, some .long) 6 [some (vl a), none, some (vl b), none, some (vi s), some (vl x), none, some (vl y), none, none, none] [] σ (rL ((if s = 0 then a else b) / euN k x y) σ) := by
  intro k
  induction k with
  | zero => intro x y h1 h2 h3 h4; omega
  | succ k ih =>
    intro x y h1 h2 h3 h4
    have e1 : (if 0 < y then (1 : Int) else if y = 0 then 0 else -1) = 0 ↔ y = 0 := by split <;> (try split) <;> omega
    have e3 : inR (if 0 < y then (1 : Int) else if y = 0 then 0 else -1) := by split <;> (try split) <;> omega
    have hm : 0 < y → 0 ≤ x % y ∧ x % y < y := fun h => ⟨Int.emod_nonneg _ (by omega), Int.emod_lt_of_pos _ (by omega)⟩
    have heu : euN (k + 1) x y = if y = 0 then x else euN k y (x % y) := rfl
    refine J_lload 8 dX9_share_6 rfl rfl ?_
    refine J_lconst (z := 0) 9 dX9_share_8 rfl rfl ?_
    refine J_lcmp 10 dX9_share_9 rfl ?_
    refine J_if_eq 31 13 dX9_share_10 rfl rfl (fun c1 => ?_) (fun c1 => ?_)
    · refine J_iload 33 dX9_share_31 rfl rfl ?_
      refine J_if_ne 40 36 dX9_share_33 rfl rfl (fun c2 => ?_) (fun c2 => ?_)
      · refine J_lload_n (i := 2) 41 dX9_share_40 rfl rfl rfl ?_
        refine J_lload 43 dX9_share_41 rfl rfl ?_
        refine J_ldiv 44 dX9_share_43 rfl ?_
        refine J_lret dX9_share_44 rfl ?_
        refine ⟨?_, rfl⟩
        rw [heu, if_pos (show y = 0 by omega)]
        first | (rw [if_pos (by omega)]; done) | (rw [if_neg (by omega)]; done)
      · refine J_lload_n (i := 0) 37 dX9_share_36 rfl rfl rfl ?_
        refine J_goto 41 dX9_share_37 rfl ?_
        refine J_lload 43 dX9_share_41 rfl rfl ?_
        refine J_ldiv 44 dX9_share_43 rfl ?_
        refine J_lret dX9_share_44 rfl ?_
        refine ⟨?_, rfl⟩
        rw [heu, if_pos (show y = 0 by omega)]
        first | (rw [if_pos (by omega)]; done) | (rw [if_neg (by omega)]; done)
    · have hm1 := hm (by omega)
      refine J_lload 15 dX9_share_13 rfl rfl ?_
      refine J_lload 17 dX9_share_15 rfl rfl ?_
      refine J_lrem 18 dX9_share_17 rfl ?_
      refine J_lstore 20 dX9_share_18 rfl (by decide) ?_
      refine J_lload 22 dX9_share_20 rfl rfl ?_
      refine J_lstore 24 dX9_share_22 rfl (by decide) ?_
      refine J_lload 26 dX9_share_24 rfl rfl ?_
      refine J_lstore 28 dX9_share_26 rfl (by decide) ?_
      refine J_goto 6 dX9_share_28 rfl ?_
      rw [heu, if_neg (show ¬ y = 0 by omega)]
      exact J.wk (ih y (x % y) (by omega) (by omega) (by omega) (by omega)) ⟨rfl, rfl, rfl, rfl, rfl, trivial⟩
theorem c_X9_share (ha : 0 ≤ a ∧ a ≤ 30 := by omega) (hw : 0 ≤ s ∧ s ≤ 1 := by omega) : Ct P 1 yX9_share cX9_share 11 (some .long) [vl a, vl 30, vi s] σ (rL (if s = 0 then a / gdN a 30 30 else 30 / gdN a 30 30) σ) := by
  have hk := eu_key ⟨a.toNat, by omega⟩
  simp only [show ((a.toNat : Nat) : Int) = a by omega] at hk
  have hmain := l_X9_share (P := P) (σ := σ) (a := a) (b := 30) (s := s) ha (by omega) hw 40 a 30 ha (by omega) (by omega) (by omega)
  rw [hk] at hmain
  have e : (if s = 0 then a else 30) / gdN a 30 30 = if s = 0 then a / gdN a 30 30 else 30 / gdN a 30 30 := by split <;> rfl
  rw [e] at hmain
  refine Ct.of _ rfl rfl rfl (Nat.le_of_ble_eq_true rfl) (fun hB => ?_)
  refine J_lload_n (i := 0) 1 dX9_share_0 rfl rfl rfl ?_
  refine J_lstore 3 dX9_share_1 rfl (by decide) ?_
  refine J_lload_n (i := 2) 4 dX9_share_3 rfl rfl rfl ?_
  refine J_lstore 6 dX9_share_4 rfl (by decide) ?_
  exact J.wk hmain ⟨rfl, rfl, rfl, rfl, rfl, trivial⟩
def G3 (σ τ : jS) : Prop := ∀ q, q ≠ 50 → q ≠ 51 → q ≠ 52 → τ q = σ q
theorem vR_G3 {σ τ : jS} (h : G3 σ τ) : vR τ = vR σ := vR_congr (fun j _ => by rw [h 36 (by omega) (by omega) (by omega)]) (fun q hq => h q (by omega) (by omega) (by omega))
set_option maxHeartbeats 8000000 in
theorem l_X9_givesI (hc : 0 ≤ c ∧ c < 6) {τ0 : jS} {Q : Option Value → jS → Prop} (hF0 : G3 σ τ0) (hK : ∀ τ : jS, τ = jup τ0 51 c (placeM (vR σ) c) → J P 4 (RX9, cX9_gives, 5, none) 108 [some (vr P 36), some (vi c), some (vi (sumN (takeF (vR σ) c) (nM (vR σ)))), none, none] [] τ Q) : ∀ (k i : Nat) (d t : Int) (τ : jS), i + k = nM (vR σ) → d = i → t = sumN (takeF (vR σ) c) i → τ = jup τ0 51 c (sumN (placeF (vR σ) c) i) → J P 4 (RX9, cX9_gives, 5, none) 21 [some (vr P 36), some (vi c), some (vi t), some (vi d), none] [] τ Q := by
  intro k
  induction k with
  | zero =>
    intro i d t τ hi hd ht hτ
    rw [Nat.add_zero] at hi
    refine J.bd (fun hB => ?_)
    have hn : 0 ≤ τ 36 2 ∧ τ 36 2 ≤ 6 := hB 36 2
    have en : τ 36 2 = (nM (vR σ) : Nat) := by
      have : τ 36 = σ 36 := by rw [hτ, ← hF0 36 (by omega) (by omega) (by omega)]; funext q; unfold jup; rw [if_neg (by omega)]
      have e2 : nM (vR σ) = (σ 36 2).toNat := rfl
      rw [this] at hn ⊢
      omega
    refine J_iload_n (i := 3) 22 dX9_gives_21 rfl rfl rfl ?_
    refine J_aload_n (i := 0) 23 dX9_gives_22 rfl rfl rfl ?_
    refine J_getI (jz := 2) (lo := 0) (hi := 6) 26 dX9_gives_23 rfl fX9_104 rfl rfl rfl rfl (fun b1 b2 => ?_)
    refine J_icmp_ge 108 29 dX9_gives_26 rfl rfl (fun c3 => ?_) (fun c3 => ?_)
    · subst hi
      subst ht
      exact J.wk (hK _ (by rw [hτ]; rfl)) ⟨rfl, rfl, rfl, trivial⟩
    · exfalso; omega
  | succ k ih =>
    intro i d t τ hi hd ht hτ
    refine J.bd (fun hB => ?_)
    have hvB := vR_B hB
    have hFτ : G3 σ τ := fun q h1 h2 h3 => by rw [hτ, ← hF0 q h1 h2 h3]; funext j; unfold jup; rw [if_neg h2]
    have ev := vR_G3 hFτ
    rw [ev] at hvB
    have hn : 0 ≤ τ 36 2 ∧ τ 36 2 ≤ 6 := hB 36 2
    have en : τ 36 2 = (nM (vR σ) : Nat) := by
      rw [hFτ 36 (by omega) (by omega) (by omega)] at hn ⊢
      have e2 : nM (vR σ) = (σ 36 2).toNat := rfl
      omega
    have hpb := sumN_b (placeF_b (vR σ) c) i
    have htb := sumN_b (takeF_b hvB c) i
    have e51 : τ 51 c = sumN (placeF (vR σ) c) i := by rw [hτ]; simp [jup]
    have h41 : τ 41 = σ 41 := hFτ 41 (by omega) (by omega) (by omega)
    have h39 : τ 39 = σ 39 := hFτ 39 (by omega) (by omega) (by omega)
    have ep : sumN (placeF (vR σ) c) (i + 1) = sumN (placeF (vR σ) c) i + (if τ 41 d = τ 41 c ∧ rankM (vR σ) c < rankM (vR σ) d then 1 else 0) := by rw [h41, hd]; rfl
    have et : sumN (takeF (vR σ) c) (i + 1) = sumN (takeF (vR σ) c) i + (if τ 41 d = τ 41 c ∧ rankM (vR σ) c < rankM (vR σ) d then τ 39 d else 0) := by rw [h41, h39, hd]; rfl
    have hst : ∀ z : Int, jup τ 51 c z = jup τ0 51 c z := fun z => by rw [hτ, jup_jup]
    have hself : d = c → rankM (vR σ) c = rankM (vR σ) d := fun h => by rw [h]
    refine J_iload_n (i := 3) 22 dX9_gives_21 rfl rfl rfl ?_
    refine J_aload_n (i := 0) 23 dX9_gives_22 rfl rfl rfl ?_
    refine J_getI (jz := 2) (lo := 0) (hi := 6) 26 dX9_gives_23 rfl fX9_104 rfl rfl rfl rfl (fun b1 b2 => ?_)
    refine J_icmp_ge 108 29 dX9_gives_26 rfl rfl (fun c3 => ?_) (fun c3 => ?_)
    · exfalso; omega
    · refine J_iload_n (i := 3) 30 dX9_gives_29 rfl rfl rfl ?_
      refine J_iload_n (i := 1) 31 dX9_gives_30 rfl rfl rfl ?_
      refine J_icmp_eq 62 34 dX9_gives_31 rfl rfl (fun c4 => ?_) (fun c4 => ?_)
      · refine J_iconst 63 dX9_gives_62 rfl ?_
        refine J_istore 65 dX9_gives_63 rfl (by decide) ?_
        refine J_aload_n (i := 0) 66 dX9_gives_65 rfl rfl rfl ?_
        refine J_getR 69 dX9_gives_66 rfl fX9_52 rfl rfl ?_
        refine J_iload_n (i := 1) 70 dX9_gives_69 rfl rfl rfl ?_
        refine J_dup2 71 dX9_gives_70 rfl rfl rfl ?_
        refine J_iald (N := 6) (lo := 0) (hi := 6) 72 dX9_gives_71 rfl rfl rfl rfl (fun b5 b6 => ?_)
        refine J_iload 74 dX9_gives_72 rfl rfl ?_
        refine J_if_eq 81 77 dX9_gives_74 rfl rfl (fun c7 => ?_) (fun c7 => ?_)
        · refine J_iconst 82 dX9_gives_81 rfl ?_
          refine J_iadd 83 dX9_gives_82 rfl ?_
          refine J_iast (N := 6) (lo := 0) (hi := 6) 84 dX9_gives_83 rfl rfl rfl rfl ?_
          refine J_iload_n (i := 2) 85 dX9_gives_84 rfl rfl rfl ?_
          refine J_iload 87 dX9_gives_85 rfl rfl ?_
          refine J_if_eq 99 90 dX9_gives_87 rfl rfl (fun c8 => ?_) (fun c8 => ?_)
          · refine J_iconst 100 dX9_gives_99 rfl ?_
            refine J_iadd 101 dX9_gives_100 rfl ?_
            refine J_istore_n (i := 2) 102 dX9_gives_101 rfl rfl (by decide) ?_
            refine J_iinc 105 dX9_gives_102 rfl (by decide) rfl ?_
            refine J_goto 21 dX9_gives_105 rfl ?_
            first
              | (exfalso; omega)
              | (rw [if_pos (show τ 41 d = τ 41 c ∧ rankM (vR σ) c < rankM (vR σ) d by omega)] at ep et; exact J.wk (ih (i + 1) (d + 1) (t + τ 39 d) _ (by omega) (by omega) (by omega) (by rw [hst, ep, e51])) ⟨rfl, rfl, rfl, rfl, trivial⟩)
              | (rw [if_neg (show ¬ (τ 41 d = τ 41 c ∧ rankM (vR σ) c < rankM (vR σ) d) by omega)] at ep et; exact J.wk (ih (i + 1) (d + 1) (t + 0) _ (by omega) (by omega) (by omega) (by rw [hst, ep, e51])) ⟨rfl, rfl, rfl, rfl, trivial⟩)
          · refine J_aload_n (i := 0) 91 dX9_gives_90 rfl rfl rfl ?_
            refine J_getR 94 dX9_gives_91 rfl fX9_16 rfl rfl ?_
            refine J_iload_n (i := 3) 95 dX9_gives_94 rfl rfl rfl ?_
            refine J_iald (N := 6) (lo := 0) (hi := 9) 96 dX9_gives_95 rfl rfl rfl rfl (fun b9 b10 => ?_)
            try simp +decide only [jup, ↓reduceIte] at b9 b10 ⊢
            refine J_goto 100 dX9_gives_96 rfl ?_
            refine J_iadd 101 dX9_gives_100 rfl ?_
            refine J_istore_n (i := 2) 102 dX9_gives_101 rfl rfl (by decide) ?_
            refine J_iinc 105 dX9_gives_102 rfl (by decide) rfl ?_
            refine J_goto 21 dX9_gives_105 rfl ?_
            first
              | (exfalso; omega)
              | (rw [if_pos (show τ 41 d = τ 41 c ∧ rankM (vR σ) c < rankM (vR σ) d by omega)] at ep et; exact J.wk (ih (i + 1) (d + 1) (t + τ 39 d) _ (by omega) (by omega) (by omega) (by rw [hst, ep, e51])) ⟨rfl, rfl, rfl, rfl, trivial⟩)
              | (rw [if_neg (show ¬ (τ 41 d = τ 41 c ∧ rankM (vR σ) c < rankM (vR σ) d) by omega)] at ep et; exact J.wk (ih (i + 1) (d + 1) (t + 0) _ (by omega) (by omega) (by omega) (by rw [hst, ep, e51])) ⟨rfl, rfl, rfl, rfl, trivial⟩)
        · refine J_iconst 78 dX9_gives_77 rfl ?_
          refine J_goto 82 dX9_gives_78 rfl ?_
          refine J_iadd 83 dX9_gives_82 rfl ?_
          refine J_iast (N := 6) (lo := 0) (hi := 6) 84 dX9_gives_83 rfl rfl rfl rfl ?_
          refine J_iload_n (i := 2) 85 dX9_gives_84 rfl rfl rfl ?_
          refine J_iload 87 dX9_gives_85 rfl rfl ?_
          refine J_if_eq 99 90 dX9_gives_87 rfl rfl (fun c11 => ?_) (fun c11 => ?_)
          · refine J_iconst 100 dX9_gives_99 rfl ?_
            refine J_iadd 101 dX9_gives_100 rfl ?_
            refine J_istore_n (i := 2) 102 dX9_gives_101 rfl rfl (by decide) ?_
            refine J_iinc 105 dX9_gives_102 rfl (by decide) rfl ?_
            refine J_goto 21 dX9_gives_105 rfl ?_
            first
              | (exfalso; omega)
              | (rw [if_pos (show τ 41 d = τ 41 c ∧ rankM (vR σ) c < rankM (vR σ) d by omega)] at ep et; exact J.wk (ih (i + 1) (d + 1) (t + τ 39 d) _ (by omega) (by omega) (by omega) (by rw [hst, ep, e51])) ⟨rfl, rfl, rfl, rfl, trivial⟩)
              | (rw [if_neg (show ¬ (τ 41 d = τ 41 c ∧ rankM (vR σ) c < rankM (vR σ) d) by omega)] at ep et; exact J.wk (ih (i + 1) (d + 1) (t + 0) _ (by omega) (by omega) (by omega) (by rw [hst, ep, e51])) ⟨rfl, rfl, rfl, rfl, trivial⟩)
          · refine J_aload_n (i := 0) 91 dX9_gives_90 rfl rfl rfl ?_
            refine J_getR 94 dX9_gives_91 rfl fX9_16 rfl rfl ?_
            refine J_iload_n (i := 3) 95 dX9_gives_94 rfl rfl rfl ?_
            refine J_iald (N := 6) (lo := 0) (hi := 9) 96 dX9_gives_95 rfl rfl rfl rfl (fun b12 b13 => ?_)
            try simp +decide only [jup, ↓reduceIte] at b12 b13 ⊢
            refine J_goto 100 dX9_gives_96 rfl ?_
            refine J_iadd 101 dX9_gives_100 rfl ?_
            refine J_istore_n (i := 2) 102 dX9_gives_101 rfl rfl (by decide) ?_
            refine J_iinc 105 dX9_gives_102 rfl (by decide) rfl ?_
            refine J_goto 21 dX9_gives_105 rfl ?_
            first
              | (exfalso; omega)
              | (rw [if_pos (show τ 41 d = τ 41 c ∧ rankM (vR σ) c < rankM (vR σ) d by omega)] at ep et; exact J.wk (ih (i + 1) (d + 1) (t + τ 39 d) _ (by omega) (by omega) (by omega) (by rw [hst, ep, e51])) ⟨rfl, rfl, rfl, rfl, trivial⟩)
              | (rw [if_neg (show ¬ (τ 41 d = τ 41 c ∧ rankM (vR σ) c < rankM (vR σ) d) by omega)] at ep et; exact J.wk (ih (i + 1) (d + 1) (t + 0) _ (by omega) (by omega) (by omega) (by rw [hst, ep, e51])) ⟨rfl, rfl, rfl, rfl, trivial⟩)
      · refine J_aload_n (i := 0) 35 dX9_gives_34 rfl rfl rfl ?_
        refine J_getR 38 dX9_gives_35 rfl fX9_22 rfl rfl ?_
        refine J_iload_n (i := 3) 39 dX9_gives_38 rfl rfl rfl ?_
        refine J_iald (N := 6) (lo := 0) (hi := 2) 40 dX9_gives_39 rfl rfl rfl rfl (fun b14 b15 => ?_)
        refine J_aload_n (i := 0) 41 dX9_gives_40 rfl rfl rfl ?_
        refine J_getR 44 dX9_gives_41 rfl fX9_22 rfl rfl ?_
        refine J_iload_n (i := 1) 45 dX9_gives_44 rfl rfl rfl ?_
        refine J_iald (N := 6) (lo := 0) (hi := 2) 46 dX9_gives_45 rfl rfl rfl rfl (fun b16 b17 => ?_)
        refine J_icmp_ne 62 49 dX9_gives_46 rfl rfl (fun c18 => ?_) (fun c18 => ?_)
        · refine J_iconst 63 dX9_gives_62 rfl ?_
          refine J_istore 65 dX9_gives_63 rfl (by decide) ?_
          refine J_aload_n (i := 0) 66 dX9_gives_65 rfl rfl rfl ?_
          refine J_getR 69 dX9_gives_66 rfl fX9_52 rfl rfl ?_
          refine J_iload_n (i := 1) 70 dX9_gives_69 rfl rfl rfl ?_
          refine J_dup2 71 dX9_gives_70 rfl rfl rfl ?_
          refine J_iald (N := 6) (lo := 0) (hi := 6) 72 dX9_gives_71 rfl rfl rfl rfl (fun b19 b20 => ?_)
          refine J_iload 74 dX9_gives_72 rfl rfl ?_
          refine J_if_eq 81 77 dX9_gives_74 rfl rfl (fun c21 => ?_) (fun c21 => ?_)
          · refine J_iconst 82 dX9_gives_81 rfl ?_
            refine J_iadd 83 dX9_gives_82 rfl ?_
            refine J_iast (N := 6) (lo := 0) (hi := 6) 84 dX9_gives_83 rfl rfl rfl rfl ?_
            refine J_iload_n (i := 2) 85 dX9_gives_84 rfl rfl rfl ?_
            refine J_iload 87 dX9_gives_85 rfl rfl ?_
            refine J_if_eq 99 90 dX9_gives_87 rfl rfl (fun c22 => ?_) (fun c22 => ?_)
            · refine J_iconst 100 dX9_gives_99 rfl ?_
              refine J_iadd 101 dX9_gives_100 rfl ?_
              refine J_istore_n (i := 2) 102 dX9_gives_101 rfl rfl (by decide) ?_
              refine J_iinc 105 dX9_gives_102 rfl (by decide) rfl ?_
              refine J_goto 21 dX9_gives_105 rfl ?_
              first
                | (exfalso; omega)
                | (rw [if_pos (show τ 41 d = τ 41 c ∧ rankM (vR σ) c < rankM (vR σ) d by omega)] at ep et; exact J.wk (ih (i + 1) (d + 1) (t + τ 39 d) _ (by omega) (by omega) (by omega) (by rw [hst, ep, e51])) ⟨rfl, rfl, rfl, rfl, trivial⟩)
                | (rw [if_neg (show ¬ (τ 41 d = τ 41 c ∧ rankM (vR σ) c < rankM (vR σ) d) by omega)] at ep et; exact J.wk (ih (i + 1) (d + 1) (t + 0) _ (by omega) (by omega) (by omega) (by rw [hst, ep, e51])) ⟨rfl, rfl, rfl, rfl, trivial⟩)
            · refine J_aload_n (i := 0) 91 dX9_gives_90 rfl rfl rfl ?_
              refine J_getR 94 dX9_gives_91 rfl fX9_16 rfl rfl ?_
              refine J_iload_n (i := 3) 95 dX9_gives_94 rfl rfl rfl ?_
              refine J_iald (N := 6) (lo := 0) (hi := 9) 96 dX9_gives_95 rfl rfl rfl rfl (fun b23 b24 => ?_)
              try simp +decide only [jup, ↓reduceIte] at b23 b24 ⊢
              refine J_goto 100 dX9_gives_96 rfl ?_
              refine J_iadd 101 dX9_gives_100 rfl ?_
              refine J_istore_n (i := 2) 102 dX9_gives_101 rfl rfl (by decide) ?_
              refine J_iinc 105 dX9_gives_102 rfl (by decide) rfl ?_
              refine J_goto 21 dX9_gives_105 rfl ?_
              first
                | (exfalso; omega)
                | (rw [if_pos (show τ 41 d = τ 41 c ∧ rankM (vR σ) c < rankM (vR σ) d by omega)] at ep et; exact J.wk (ih (i + 1) (d + 1) (t + τ 39 d) _ (by omega) (by omega) (by omega) (by rw [hst, ep, e51])) ⟨rfl, rfl, rfl, rfl, trivial⟩)
                | (rw [if_neg (show ¬ (τ 41 d = τ 41 c ∧ rankM (vR σ) c < rankM (vR σ) d) by omega)] at ep et; exact J.wk (ih (i + 1) (d + 1) (t + 0) _ (by omega) (by omega) (by omega) (by rw [hst, ep, e51])) ⟨rfl, rfl, rfl, rfl, trivial⟩)
          · refine J_iconst 78 dX9_gives_77 rfl ?_
            refine J_goto 82 dX9_gives_78 rfl ?_
            refine J_iadd 83 dX9_gives_82 rfl ?_
            refine J_iast (N := 6) (lo := 0) (hi := 6) 84 dX9_gives_83 rfl rfl rfl rfl ?_
            refine J_iload_n (i := 2) 85 dX9_gives_84 rfl rfl rfl ?_
            refine J_iload 87 dX9_gives_85 rfl rfl ?_
            refine J_if_eq 99 90 dX9_gives_87 rfl rfl (fun c25 => ?_) (fun c25 => ?_)
            · refine J_iconst 100 dX9_gives_99 rfl ?_
              refine J_iadd 101 dX9_gives_100 rfl ?_
              refine J_istore_n (i := 2) 102 dX9_gives_101 rfl rfl (by decide) ?_
              refine J_iinc 105 dX9_gives_102 rfl (by decide) rfl ?_
              refine J_goto 21 dX9_gives_105 rfl ?_
              first
                | (exfalso; omega)
                | (rw [if_pos (show τ 41 d = τ 41 c ∧ rankM (vR σ) c < rankM (vR σ) d by omega)] at ep et; exact J.wk (ih (i + 1) (d + 1) (t + τ 39 d) _ (by omega) (by omega) (by omega) (by rw [hst, ep, e51])) ⟨rfl, rfl, rfl, rfl, trivial⟩)
                | (rw [if_neg (show ¬ (τ 41 d = τ 41 c ∧ rankM (vR σ) c < rankM (vR σ) d) by omega)] at ep et; exact J.wk (ih (i + 1) (d + 1) (t + 0) _ (by omega) (by omega) (by omega) (by rw [hst, ep, e51])) ⟨rfl, rfl, rfl, rfl, trivial⟩)
            · refine J_aload_n (i := 0) 91 dX9_gives_90 rfl rfl rfl ?_
              refine J_getR 94 dX9_gives_91 rfl fX9_16 rfl rfl ?_
              refine J_iload_n (i := 3) 95 dX9_gives_94 rfl rfl rfl ?_
              refine J_iald (N := 6) (lo := 0) (hi := 9) 96 dX9_gives_95 rfl rfl rfl rfl (fun b26 b27 => ?_)
              try simp +decide only [jup, ↓reduceIte] at b26 b27 ⊢
              refine J_goto 100 dX9_gives_96 rfl ?_
              refine J_iadd 101 dX9_gives_100 rfl ?_
              refine J_istore_n (i := 2) 102 dX9_gives_101 rfl rfl (by decide) ?_
              refine J_iinc 105 dX9_gives_102 rfl (by decide) rfl ?_
              refine J_goto 21 dX9_gives_105 rfl ?_
              first
                | (exfalso; omega)
                | (rw [if_pos (show τ 41 d = τ 41 c ∧ rankM (vR σ) c < rankM (vR σ) d by omega)] at ep et; exact J.wk (ih (i + 1) (d + 1) (t + τ 39 d) _ (by omega) (by omega) (by omega) (by rw [hst, ep, e51])) ⟨rfl, rfl, rfl, rfl, trivial⟩)
                | (rw [if_neg (show ¬ (τ 41 d = τ 41 c ∧ rankM (vR σ) c < rankM (vR σ) d) by omega)] at ep et; exact J.wk (ih (i + 1) (d + 1) (t + 0) _ (by omega) (by omega) (by omega) (by rw [hst, ep, e51])) ⟨rfl, rfl, rfl, rfl, trivial⟩)
        · refine J_aload_n (i := 0) 50 dX9_gives_49 rfl rfl rfl ?_
          refine J_iload_n (i := 3) 51 dX9_gives_50 rfl rfl rfl ?_
          refine J_iload_n (i := 1) 52 dX9_gives_51 rfl rfl rfl ?_
          refine J_callVi 55 dX9_gives_52 rfl kX9_174 mX9_isAhead rfl rfl rfl (c_X9_isAhead) (by first | decide | omega) rfl rfl (Nat.le_of_ble_eq_true rfl) (fun z29 s30 h28 => ?_)
          obtain ⟨rfl, rfl⟩ := h28
          rw [ev]
          refine J_bif_eq 62 58 dX9_gives_55 rfl rfl (fun c31 => ?_) (fun c31 => ?_)
          · refine J_iconst 63 dX9_gives_62 rfl ?_
            refine J_istore 65 dX9_gives_63 rfl (by decide) ?_
            refine J_aload_n (i := 0) 66 dX9_gives_65 rfl rfl rfl ?_
            refine J_getR 69 dX9_gives_66 rfl fX9_52 rfl rfl ?_
            refine J_iload_n (i := 1) 70 dX9_gives_69 rfl rfl rfl ?_
            refine J_dup2 71 dX9_gives_70 rfl rfl rfl ?_
            refine J_iald (N := 6) (lo := 0) (hi := 6) 72 dX9_gives_71 rfl rfl rfl rfl (fun b32 b33 => ?_)
            refine J_iload 74 dX9_gives_72 rfl rfl ?_
            refine J_if_eq 81 77 dX9_gives_74 rfl rfl (fun c34 => ?_) (fun c34 => ?_)
            · refine J_iconst 82 dX9_gives_81 rfl ?_
              refine J_iadd 83 dX9_gives_82 rfl ?_
              refine J_iast (N := 6) (lo := 0) (hi := 6) 84 dX9_gives_83 rfl rfl rfl rfl ?_
              refine J_iload_n (i := 2) 85 dX9_gives_84 rfl rfl rfl ?_
              refine J_iload 87 dX9_gives_85 rfl rfl ?_
              refine J_if_eq 99 90 dX9_gives_87 rfl rfl (fun c35 => ?_) (fun c35 => ?_)
              · refine J_iconst 100 dX9_gives_99 rfl ?_
                refine J_iadd 101 dX9_gives_100 rfl ?_
                refine J_istore_n (i := 2) 102 dX9_gives_101 rfl rfl (by decide) ?_
                refine J_iinc 105 dX9_gives_102 rfl (by decide) rfl ?_
                refine J_goto 21 dX9_gives_105 rfl ?_
                first
                  | (exfalso; omega)
                  | (rw [if_pos (show τ 41 d = τ 41 c ∧ rankM (vR σ) c < rankM (vR σ) d by omega)] at ep et; exact J.wk (ih (i + 1) (d + 1) (t + τ 39 d) _ (by omega) (by omega) (by omega) (by rw [hst, ep, e51])) ⟨rfl, rfl, rfl, rfl, trivial⟩)
                  | (rw [if_neg (show ¬ (τ 41 d = τ 41 c ∧ rankM (vR σ) c < rankM (vR σ) d) by omega)] at ep et; exact J.wk (ih (i + 1) (d + 1) (t + 0) _ (by omega) (by omega) (by omega) (by rw [hst, ep, e51])) ⟨rfl, rfl, rfl, rfl, trivial⟩)
              · refine J_aload_n (i := 0) 91 dX9_gives_90 rfl rfl rfl ?_
                refine J_getR 94 dX9_gives_91 rfl fX9_16 rfl rfl ?_
                refine J_iload_n (i := 3) 95 dX9_gives_94 rfl rfl rfl ?_
                refine J_iald (N := 6) (lo := 0) (hi := 9) 96 dX9_gives_95 rfl rfl rfl rfl (fun b36 b37 => ?_)
                try simp +decide only [jup, ↓reduceIte] at b36 b37 ⊢
                refine J_goto 100 dX9_gives_96 rfl ?_
                refine J_iadd 101 dX9_gives_100 rfl ?_
                refine J_istore_n (i := 2) 102 dX9_gives_101 rfl rfl (by decide) ?_
                refine J_iinc 105 dX9_gives_102 rfl (by decide) rfl ?_
                refine J_goto 21 dX9_gives_105 rfl ?_
                first
                  | (exfalso; omega)
                  | (rw [if_pos (show τ 41 d = τ 41 c ∧ rankM (vR σ) c < rankM (vR σ) d by omega)] at ep et; exact J.wk (ih (i + 1) (d + 1) (t + τ 39 d) _ (by omega) (by omega) (by omega) (by rw [hst, ep, e51])) ⟨rfl, rfl, rfl, rfl, trivial⟩)
                  | (rw [if_neg (show ¬ (τ 41 d = τ 41 c ∧ rankM (vR σ) c < rankM (vR σ) d) by omega)] at ep et; exact J.wk (ih (i + 1) (d + 1) (t + 0) _ (by omega) (by omega) (by omega) (by rw [hst, ep, e51])) ⟨rfl, rfl, rfl, rfl, trivial⟩)
            · refine J_iconst 78 dX9_gives_77 rfl ?_
              refine J_goto 82 dX9_gives_78 rfl ?_
              refine J_iadd 83 dX9_gives_82 rfl ?_
              refine J_iast (N := 6) (lo := 0) (hi := 6) 84 dX9_gives_83 rfl rfl rfl rfl ?_
              refine J_iload_n (i := 2) 85 dX9_gives_84 rfl rfl rfl ?_
              refine J_iload 87 dX9_gives_85 rfl rfl ?_
              refine J_if_eq 99 90 dX9_gives_87 rfl rfl (fun c38 => ?_) (fun c38 => ?_)
              · refine J_iconst 100 dX9_gives_99 rfl ?_
                refine J_iadd 101 dX9_gives_100 rfl ?_
                refine J_istore_n (i := 2) 102 dX9_gives_101 rfl rfl (by decide) ?_
                refine J_iinc 105 dX9_gives_102 rfl (by decide) rfl ?_
                refine J_goto 21 dX9_gives_105 rfl ?_
                first
                  | (exfalso; omega)
                  | (rw [if_pos (show τ 41 d = τ 41 c ∧ rankM (vR σ) c < rankM (vR σ) d by omega)] at ep et; exact J.wk (ih (i + 1) (d + 1) (t + τ 39 d) _ (by omega) (by omega) (by omega) (by rw [hst, ep, e51])) ⟨rfl, rfl, rfl, rfl, trivial⟩)
                  | (rw [if_neg (show ¬ (τ 41 d = τ 41 c ∧ rankM (vR σ) c < rankM (vR σ) d) by omega)] at ep et; exact J.wk (ih (i + 1) (d + 1) (t + 0) _ (by omega) (by omega) (by omega) (by rw [hst, ep, e51])) ⟨rfl, rfl, rfl, rfl, trivial⟩)
              · refine J_aload_n (i := 0) 91 dX9_gives_90 rfl rfl rfl ?_
                refine J_getR 94 dX9_gives_91 rfl fX9_16 rfl rfl ?_
                refine J_iload_n (i := 3) 95 dX9_gives_94 rfl rfl rfl ?_
                refine J_iald (N := 6) (lo := 0) (hi := 9) 96 dX9_gives_95 rfl rfl rfl rfl (fun b39 b40 => ?_)
                try simp +decide only [jup, ↓reduceIte] at b39 b40 ⊢
                refine J_goto 100 dX9_gives_96 rfl ?_
                refine J_iadd 101 dX9_gives_100 rfl ?_
                refine J_istore_n (i := 2) 102 dX9_gives_101 rfl rfl (by decide) ?_
                refine J_iinc 105 dX9_gives_102 rfl (by decide) rfl ?_
                refine J_goto 21 dX9_gives_105 rfl ?_
                first
                  | (exfalso; omega)
                  | (rw [if_pos (show τ 41 d = τ 41 c ∧ rankM (vR σ) c < rankM (vR σ) d by omega)] at ep et; exact J.wk (ih (i + 1) (d + 1) (t + τ 39 d) _ (by omega) (by omega) (by omega) (by rw [hst, ep, e51])) ⟨rfl, rfl, rfl, rfl, trivial⟩)
                  | (rw [if_neg (show ¬ (τ 41 d = τ 41 c ∧ rankM (vR σ) c < rankM (vR σ) d) by omega)] at ep et; exact J.wk (ih (i + 1) (d + 1) (t + 0) _ (by omega) (by omega) (by omega) (by rw [hst, ep, e51])) ⟨rfl, rfl, rfl, rfl, trivial⟩)
          · refine J_iconst 59 dX9_gives_58 rfl ?_
            refine J_goto 63 dX9_gives_59 rfl ?_
            refine J_istore 65 dX9_gives_63 rfl (by decide) ?_
            refine J_aload_n (i := 0) 66 dX9_gives_65 rfl rfl rfl ?_
            refine J_getR 69 dX9_gives_66 rfl fX9_52 rfl rfl ?_
            refine J_iload_n (i := 1) 70 dX9_gives_69 rfl rfl rfl ?_
            refine J_dup2 71 dX9_gives_70 rfl rfl rfl ?_
            refine J_iald (N := 6) (lo := 0) (hi := 6) 72 dX9_gives_71 rfl rfl rfl rfl (fun b41 b42 => ?_)
            refine J_iload 74 dX9_gives_72 rfl rfl ?_
            refine J_if_eq 81 77 dX9_gives_74 rfl rfl (fun c43 => ?_) (fun c43 => ?_)
            · refine J_iconst 82 dX9_gives_81 rfl ?_
              refine J_iadd 83 dX9_gives_82 rfl ?_
              refine J_iast (N := 6) (lo := 0) (hi := 6) 84 dX9_gives_83 rfl rfl rfl rfl ?_
              refine J_iload_n (i := 2) 85 dX9_gives_84 rfl rfl rfl ?_
              refine J_iload 87 dX9_gives_85 rfl rfl ?_
              refine J_if_eq 99 90 dX9_gives_87 rfl rfl (fun c44 => ?_) (fun c44 => ?_)
              · refine J_iconst 100 dX9_gives_99 rfl ?_
                refine J_iadd 101 dX9_gives_100 rfl ?_
                refine J_istore_n (i := 2) 102 dX9_gives_101 rfl rfl (by decide) ?_
                refine J_iinc 105 dX9_gives_102 rfl (by decide) rfl ?_
                refine J_goto 21 dX9_gives_105 rfl ?_
                first
                  | (exfalso; omega)
                  | (rw [if_pos (show τ 41 d = τ 41 c ∧ rankM (vR σ) c < rankM (vR σ) d by omega)] at ep et; exact J.wk (ih (i + 1) (d + 1) (t + τ 39 d) _ (by omega) (by omega) (by omega) (by rw [hst, ep, e51])) ⟨rfl, rfl, rfl, rfl, trivial⟩)
                  | (rw [if_neg (show ¬ (τ 41 d = τ 41 c ∧ rankM (vR σ) c < rankM (vR σ) d) by omega)] at ep et; exact J.wk (ih (i + 1) (d + 1) (t + 0) _ (by omega) (by omega) (by omega) (by rw [hst, ep, e51])) ⟨rfl, rfl, rfl, rfl, trivial⟩)
              · refine J_aload_n (i := 0) 91 dX9_gives_90 rfl rfl rfl ?_
                refine J_getR 94 dX9_gives_91 rfl fX9_16 rfl rfl ?_
                refine J_iload_n (i := 3) 95 dX9_gives_94 rfl rfl rfl ?_
                refine J_iald (N := 6) (lo := 0) (hi := 9) 96 dX9_gives_95 rfl rfl rfl rfl (fun b45 b46 => ?_)
                try simp +decide only [jup, ↓reduceIte] at b45 b46 ⊢
                refine J_goto 100 dX9_gives_96 rfl ?_
                refine J_iadd 101 dX9_gives_100 rfl ?_
                refine J_istore_n (i := 2) 102 dX9_gives_101 rfl rfl (by decide) ?_
                refine J_iinc 105 dX9_gives_102 rfl (by decide) rfl ?_
                refine J_goto 21 dX9_gives_105 rfl ?_
                first
                  | (exfalso; omega)
                  | (rw [if_pos (show τ 41 d = τ 41 c ∧ rankM (vR σ) c < rankM (vR σ) d by omega)] at ep et; exact J.wk (ih (i + 1) (d + 1) (t + τ 39 d) _ (by omega) (by omega) (by omega) (by rw [hst, ep, e51])) ⟨rfl, rfl, rfl, rfl, trivial⟩)
                  | (rw [if_neg (show ¬ (τ 41 d = τ 41 c ∧ rankM (vR σ) c < rankM (vR σ) d) by omega)] at ep et; exact J.wk (ih (i + 1) (d + 1) (t + 0) _ (by omega) (by omega) (by omega) (by rw [hst, ep, e51])) ⟨rfl, rfl, rfl, rfl, trivial⟩)
            · refine J_iconst 78 dX9_gives_77 rfl ?_
              refine J_goto 82 dX9_gives_78 rfl ?_
              refine J_iadd 83 dX9_gives_82 rfl ?_
              refine J_iast (N := 6) (lo := 0) (hi := 6) 84 dX9_gives_83 rfl rfl rfl rfl ?_
              refine J_iload_n (i := 2) 85 dX9_gives_84 rfl rfl rfl ?_
              refine J_iload 87 dX9_gives_85 rfl rfl ?_
              refine J_if_eq 99 90 dX9_gives_87 rfl rfl (fun c47 => ?_) (fun c47 => ?_)
              · refine J_iconst 100 dX9_gives_99 rfl ?_
                refine J_iadd 101 dX9_gives_100 rfl ?_
                refine J_istore_n (i := 2) 102 dX9_gives_101 rfl rfl (by decide) ?_
                refine J_iinc 105 dX9_gives_102 rfl (by decide) rfl ?_
                refine J_goto 21 dX9_gives_105 rfl ?_
                first
                  | (exfalso; omega)
                  | (rw [if_pos (show τ 41 d = τ 41 c ∧ rankM (vR σ) c < rankM (vR σ) d by omega)] at ep et; exact J.wk (ih (i + 1) (d + 1) (t + τ 39 d) _ (by omega) (by omega) (by omega) (by rw [hst, ep, e51])) ⟨rfl, rfl, rfl, rfl, trivial⟩)
                  | (rw [if_neg (show ¬ (τ 41 d = τ 41 c ∧ rankM (vR σ) c < rankM (vR σ) d) by omega)] at ep et; exact J.wk (ih (i + 1) (d + 1) (t + 0) _ (by omega) (by omega) (by omega) (by rw [hst, ep, e51])) ⟨rfl, rfl, rfl, rfl, trivial⟩)
              · refine J_aload_n (i := 0) 91 dX9_gives_90 rfl rfl rfl ?_
                refine J_getR 94 dX9_gives_91 rfl fX9_16 rfl rfl ?_
                refine J_iload_n (i := 3) 95 dX9_gives_94 rfl rfl rfl ?_
                refine J_iald (N := 6) (lo := 0) (hi := 9) 96 dX9_gives_95 rfl rfl rfl rfl (fun b48 b49 => ?_)
                try simp +decide only [jup, ↓reduceIte] at b48 b49 ⊢
                refine J_goto 100 dX9_gives_96 rfl ?_
                refine J_iadd 101 dX9_gives_100 rfl ?_
                refine J_istore_n (i := 2) 102 dX9_gives_101 rfl rfl (by decide) ?_
                refine J_iinc 105 dX9_gives_102 rfl (by decide) rfl ?_
                refine J_goto 21 dX9_gives_105 rfl ?_
                first
                  | (exfalso; omega)
                  | (rw [if_pos (show τ 41 d = τ 41 c ∧ rankM (vR σ) c < rankM (vR σ) d by omega)] at ep et; exact J.wk (ih (i + 1) (d + 1) (t + τ 39 d) _ (by omega) (by omega) (by omega) (by rw [hst, ep, e51])) ⟨rfl, rfl, rfl, rfl, trivial⟩)
                  | (rw [if_neg (show ¬ (τ 41 d = τ 41 c ∧ rankM (vR σ) c < rankM (vR σ) d) by omega)] at ep et; exact J.wk (ih (i + 1) (d + 1) (t + 0) _ (by omega) (by omega) (by omega) (by rw [hst, ep, e51])) ⟨rfl, rfl, rfl, rfl, trivial⟩)
def givP (σ : jS) (i : Nat) (τ : jS) : Prop := G3 σ τ ∧ ∀ j : Int, 0 ≤ j → j < i → τ 50 j = eatsM (vR σ) j ∧ τ 51 j = placeM (vR σ) j
set_option maxHeartbeats 8000000 in
theorem l_X9_givesA {Q : Option Value → jS → Prop} (hK : ∀ τ : jS, givP σ (nM (vR σ)) τ → J P 4 (RX9, cX9_gives, 5, none) 162 [some (vr P 36), none, none, none, none] [] τ Q) : ∀ (k i : Nat) (d : Int) (τ : jS), i + k = nM (vR σ) → d = i → givP σ i τ → J P 4 (RX9, cX9_gives, 5, none) 2 [some (vr P 36), some (vi d), none, none, none] [] τ Q := by
  intro k
  induction k with
  | zero =>
    intro i d τ hi hd hG
    rw [Nat.add_zero] at hi
    refine J.bd (fun hB => ?_)
    have hn : 0 ≤ τ 36 2 ∧ τ 36 2 ≤ 6 := hB 36 2
    have en : τ 36 2 = (nM (vR σ) : Nat) := by
      rw [hG.1 36 (by omega) (by omega) (by omega)] at hn ⊢
      have e2 : nM (vR σ) = (σ 36 2).toNat := rfl
      omega
    refine J_iload_n (i := 1) 3 dX9_gives_2 rfl rfl rfl ?_
    refine J_aload_n (i := 0) 4 dX9_gives_3 rfl rfl rfl ?_
    refine J_getI (jz := 2) (lo := 0) (hi := 6) 7 dX9_gives_4 rfl fX9_104 rfl rfl rfl rfl (fun b1 b2 => ?_)
    refine J_icmp_ge 162 10 dX9_gives_7 rfl rfl (fun c3 => ?_) (fun c3 => ?_)
    · subst hi
      exact J.wk (hK τ hG) ⟨rfl, trivial⟩
    · exfalso; omega
  | succ k ih =>
    intro i d τ hi hd hG
    refine J.bd (fun hB => ?_)
    have hn : 0 ≤ τ 36 2 ∧ τ 36 2 ≤ 6 := hB 36 2
    have hvB := vR_B hB
    rw [vR_G3 hG.1] at hvB
    have en : τ 36 2 = (nM (vR σ) : Nat) := by
      rw [hG.1 36 (by omega) (by omega) (by omega)] at hn ⊢
      have e2 : nM (vR σ) = (σ 36 2).toNat := rfl
      omega
    have hF0 : G3 σ (jup τ 51 d 0) := fun q h1 h2 h3 => by rw [← hG.1 q h1 h2 h3]; funext j; unfold jup; rw [if_neg h2]
    have htb := sumN_b (takeF_b hvB d) (nM (vR σ))
    have hnm : nM (vR σ) ≤ 6 := by omega
    have hpb := sumN_b (placeF_b (vR σ) d) (nM (vR σ))
    have h37 : τ 37 = σ 37 := hG.1 37 (by omega) (by omega) (by omega)
    have h39 : τ 39 = σ 39 := hG.1 39 (by omega) (by omega) (by omega)
    have h41 : τ 41 = σ 41 := hG.1 41 (by omega) (by omega) (by omega)
    have heq : eatsM (vR σ) d = if τ 37 (τ 41 d) - sumN (takeF (vR σ) d) (nM (vR σ)) < 0 then 0 else if τ 37 (τ 41 d) - sumN (takeF (vR σ) d) (nM (vR σ)) < τ 39 d then τ 37 (τ 41 d) - sumN (takeF (vR σ) d) (nM (vR σ)) else τ 39 d := by
      rw [h37, h39, h41]
      show clampM (σ 37 (σ 41 d) - sumN (takeF (vR σ) d) (nM (vR σ))) (σ 39 d) = _
      have h0 : 0 ≤ σ 39 d := (hvB.2.2.2.2.2.2.1 d).1
      unfold clampM
      generalize σ 37 (σ 41 d) - sumN (takeF (vR σ) d) (nM (vR σ)) = A
      generalize σ 39 d = B at h0
      split <;> split <;> split <;> (try split) <;> omega
    have hnext : ∀ z : Int, z = eatsM (vR σ) d → givP σ (i + 1) (jup (jup τ 51 d (placeM (vR σ) d)) 50 d z) := by
      intro z hz
      refine ⟨fun q h1 h2 h3 => ?_, fun j h1 h2 => ?_⟩
      · rw [← hG.1 q h1 h2 h3]
        funext j
        unfold jup
        rw [if_neg h1, if_neg h2]
      · by_cases e : j = d
        · subst e
          simp [jup, hz]
        · have := hG.2 j h1 (by omega)
          simp [jup, e]
          exact this
    refine J_iload_n (i := 1) 3 dX9_gives_2 rfl rfl rfl ?_
    refine J_aload_n (i := 0) 4 dX9_gives_3 rfl rfl rfl ?_
    refine J_getI (jz := 2) (lo := 0) (hi := 6) 7 dX9_gives_4 rfl fX9_104 rfl rfl rfl rfl (fun b1 b2 => ?_)
    refine J_icmp_ge 162 10 dX9_gives_7 rfl rfl (fun c3 => ?_) (fun c3 => ?_)
    · exfalso; omega
    · refine J_aload_n (i := 0) 11 dX9_gives_10 rfl rfl rfl ?_
      refine J_getR 14 dX9_gives_11 rfl fX9_52 rfl rfl ?_
      refine J_iload_n (i := 1) 15 dX9_gives_14 rfl rfl rfl ?_
      refine J_iconst 16 dX9_gives_15 rfl ?_
      refine J_iast (N := 6) (lo := 0) (hi := 6) 17 dX9_gives_16 rfl rfl rfl rfl ?_
      refine J_iconst 18 dX9_gives_17 rfl ?_
      refine J_istore_n (i := 2) 19 dX9_gives_18 rfl rfl (by decide) ?_
      refine J_iconst 20 dX9_gives_19 rfl ?_
      refine J_istore_n (i := 3) 21 dX9_gives_20 rfl rfl (by decide) ?_
      refine J.wk (l_X9_givesI (σ := σ) (c := d) (by omega) hF0 (fun τ2 hτ2 => ?_) (nM (vR σ)) 0 0 0 (jup τ 51 d 0) (Nat.zero_add _) rfl rfl (jup_jup _ _ _ _ _).symm) ⟨rfl, rfl, rfl, rfl, trivial⟩
      rw [jup_jup] at hτ2
      subst hτ2
      refine J_aload_n (i := 0) 109 dX9_gives_108 rfl rfl rfl ?_
      refine J_getR 112 dX9_gives_109 rfl fX9_7 rfl rfl ?_
      refine J_aload_n (i := 0) 113 dX9_gives_112 rfl rfl rfl ?_
      refine J_getR 116 dX9_gives_113 rfl fX9_22 rfl rfl ?_
      refine J_iload_n (i := 1) 117 dX9_gives_116 rfl rfl rfl ?_
      refine J_iald (N := 6) (lo := 0) (hi := 2) 118 dX9_gives_117 rfl rfl rfl rfl (fun b1 b2 => ?_)
      try simp +decide only [jup, ↓reduceIte] at b1 b2 ⊢
      refine J_iald (N := 3) (lo := 0) (hi := 9) 119 dX9_gives_118 rfl rfl rfl rfl (fun b3 b4 => ?_)
      try simp +decide only [jup, ↓reduceIte] at b3 b4 ⊢
      refine J_iload_n (i := 2) 120 dX9_gives_119 rfl rfl rfl ?_
      refine J_isub 121 dX9_gives_120 rfl ?_
      refine J_istore_n (i := 3) 122 dX9_gives_121 rfl rfl (by decide) ?_
      refine J_aload_n (i := 0) 123 dX9_gives_122 rfl rfl rfl ?_
      refine J_getR 126 dX9_gives_123 rfl fX9_49 rfl rfl ?_
      refine J_iload_n (i := 1) 127 dX9_gives_126 rfl rfl rfl ?_
      refine J_iload_n (i := 3) 128 dX9_gives_127 rfl rfl rfl ?_
      refine J_if_ge 135 131 dX9_gives_128 rfl rfl (fun c5 => ?_) (fun c5 => ?_)
      · refine J_iload_n (i := 3) 136 dX9_gives_135 rfl rfl rfl ?_
        refine J_aload_n (i := 0) 137 dX9_gives_136 rfl rfl rfl ?_
        refine J_getR 140 dX9_gives_137 rfl fX9_16 rfl rfl ?_
        refine J_iload_n (i := 1) 141 dX9_gives_140 rfl rfl rfl ?_
        refine J_iald (N := 6) (lo := 0) (hi := 9) 142 dX9_gives_141 rfl rfl rfl rfl (fun b6 b7 => ?_)
        try simp +decide only [jup, ↓reduceIte] at b6 b7 ⊢
        refine J_icmp_ge 149 145 dX9_gives_142 rfl rfl (fun c8 => ?_) (fun c8 => ?_)
        · refine J_aload_n (i := 0) 150 dX9_gives_149 rfl rfl rfl ?_
          refine J_getR 153 dX9_gives_150 rfl fX9_16 rfl rfl ?_
          refine J_iload_n (i := 1) 154 dX9_gives_153 rfl rfl rfl ?_
          refine J_iald (N := 6) (lo := 0) (hi := 9) 155 dX9_gives_154 rfl rfl rfl rfl (fun b9 b10 => ?_)
          try simp +decide only [jup, ↓reduceIte] at b9 b10 ⊢
          refine J_iast (N := 6) (lo := 0) (hi := 9) 156 dX9_gives_155 rfl rfl rfl rfl ?_
          refine J_iinc 159 dX9_gives_156 rfl (by decide) rfl ?_
          refine J_goto 2 dX9_gives_159 rfl ?_
          refine J.wk (ih (i + 1) (d + 1) _ (by omega) (by omega) (hnext _ ?_)) ⟨rfl, rfl, trivial⟩
          rw [heq]
          first | (rw [if_pos (by omega)]; done) | (rw [if_neg (by omega), if_pos (by omega)]; done) | (rw [if_neg (by omega), if_neg (by omega)]; done)
        · refine J_iload_n (i := 3) 146 dX9_gives_145 rfl rfl rfl ?_
          refine J_goto 155 dX9_gives_146 rfl ?_
          refine J_iast (N := 6) (lo := 0) (hi := 9) 156 dX9_gives_155 rfl rfl rfl rfl ?_
          refine J_iinc 159 dX9_gives_156 rfl (by decide) rfl ?_
          refine J_goto 2 dX9_gives_159 rfl ?_
          refine J.wk (ih (i + 1) (d + 1) _ (by omega) (by omega) (hnext _ ?_)) ⟨rfl, rfl, trivial⟩
          rw [heq]
          first | (rw [if_pos (by omega)]; done) | (rw [if_neg (by omega), if_pos (by omega)]; done) | (rw [if_neg (by omega), if_neg (by omega)]; done)
      · refine J_iconst 132 dX9_gives_131 rfl ?_
        refine J_goto 155 dX9_gives_132 rfl ?_
        refine J_iast (N := 6) (lo := 0) (hi := 9) 156 dX9_gives_155 rfl rfl rfl rfl ?_
        refine J_iinc 159 dX9_gives_156 rfl (by decide) rfl ?_
        refine J_goto 2 dX9_gives_159 rfl ?_
        refine J.wk (ih (i + 1) (d + 1) _ (by omega) (by omega) (hnext _ ?_)) ⟨rfl, rfl, trivial⟩
        rw [heq]
        first | (rw [if_pos (by omega)]; done) | (rw [if_neg (by omega), if_pos (by omega)]; done) | (rw [if_neg (by omega), if_neg (by omega)]; done)

def givP2 (σ : jS) (i : Nat) (τ : jS) : Prop := givP σ (nM (vR σ)) τ ∧ ∀ j : Int, 0 ≤ j → j < i → τ 52 j = vR σ 1 j
set_option maxHeartbeats 8000000 in
theorem l_X9_givesB {Q : Option Value → jS → Prop} (hK : ∀ τ : jS, givP2 σ (gM (vR σ)) τ → J P 4 (RX9, cX9_gives, 5, none) 190 [some (vr P 36), none, none, none, none] [] τ Q) : ∀ (k i : Nat) (d : Int) (τ : jS), i + k = gM (vR σ) → d = i → givP2 σ i τ → J P 4 (RX9, cX9_gives, 5, none) 164 [some (vr P 36), some (vi d), none, none, none] [] τ Q := by
  intro k
  induction k with
  | zero =>
    intro i d τ hi hd hG
    rw [Nat.add_zero] at hi
    refine J.bd (fun hB => ?_)
    have hn : 0 ≤ τ 36 1 ∧ τ 36 1 ≤ 3 := hB 36 1
    have en : τ 36 1 = (gM (vR σ) : Nat) := by
      rw [hG.1.1 36 (by omega) (by omega) (by omega)] at hn ⊢
      have e2 : gM (vR σ) = (σ 36 1).toNat := rfl
      omega
    refine J_iload_n (i := 1) 165 dX9_gives_164 rfl rfl rfl ?_
    refine J_aload_n (i := 0) 166 dX9_gives_165 rfl rfl rfl ?_
    refine J_getI (jz := 1) (lo := 0) (hi := 3) 169 dX9_gives_166 rfl fX9_111 rfl rfl rfl rfl (fun b1 b2 => ?_)
    refine J_icmp_ge 190 172 dX9_gives_169 rfl rfl (fun c3 => ?_) (fun c3 => ?_)
    · subst hi
      exact J.wk (hK τ hG) ⟨rfl, trivial⟩
    · exfalso; omega
  | succ k ih =>
    intro i d τ hi hd hG
    refine J.bd (fun hB => ?_)
    have hn : 0 ≤ τ 36 1 ∧ τ 36 1 ≤ 3 := hB 36 1
    have en : τ 36 1 = (gM (vR σ) : Nat) := by
      rw [hG.1.1 36 (by omega) (by omega) (by omega)] at hn ⊢
      have e2 : gM (vR σ) = (σ 36 1).toNat := rfl
      omega
    have h37 : τ 37 = σ 37 := hG.1.1 37 (by omega) (by omega) (by omega)
    have hnext : givP2 σ (i + 1) (jup τ 52 d (τ 37 d)) := by
      refine ⟨⟨fun q h1 h2 h3 => ?_, fun j h1 h2 => ?_⟩, fun j h1 h2 => ?_⟩
      · rw [← hG.1.1 q h1 h2 h3]
        funext j
        unfold jup
        rw [if_neg h3]
      · exact hG.1.2 j h1 h2
      · by_cases e : j = d
        · subst e
          rw [h37]
          simp [jup]
          rfl
        · have := hG.2 j h1 (by omega)
          simp [jup, e]
          exact this
    refine J_iload_n (i := 1) 165 dX9_gives_164 rfl rfl rfl ?_
    refine J_aload_n (i := 0) 166 dX9_gives_165 rfl rfl rfl ?_
    refine J_getI (jz := 1) (lo := 0) (hi := 3) 169 dX9_gives_166 rfl fX9_111 rfl rfl rfl rfl (fun b1 b2 => ?_)
    refine J_icmp_ge 190 172 dX9_gives_169 rfl rfl (fun c3 => ?_) (fun c3 => ?_)
    · exfalso; omega
    · refine J_aload_n (i := 0) 173 dX9_gives_172 rfl rfl rfl ?_
      refine J_getR 176 dX9_gives_173 rfl fX9_55 rfl rfl ?_
      refine J_iload_n (i := 1) 177 dX9_gives_176 rfl rfl rfl ?_
      refine J_aload_n (i := 0) 178 dX9_gives_177 rfl rfl rfl ?_
      refine J_getR 181 dX9_gives_178 rfl fX9_7 rfl rfl ?_
      refine J_iload_n (i := 1) 182 dX9_gives_181 rfl rfl rfl ?_
      refine J_iald (N := 3) (lo := 0) (hi := 9) 183 dX9_gives_182 rfl rfl rfl rfl (fun b4 b5 => ?_)
      refine J_iast (N := 3) (lo := (-99)) (hi := 9) 184 dX9_gives_183 rfl rfl rfl rfl ?_
      refine J_iinc 187 dX9_gives_184 rfl (by decide) rfl ?_
      refine J_goto 164 dX9_gives_187 rfl ?_
      exact ih (i + 1) (d + 1) _ (by omega) (by omega) hnext
def okG (σ : jS) : Prop := ∀ c : Int, 0 ≤ c → c < σ 36 2 → σ 41 c < σ 36 1
def givP3 (σ : jS) (i : Nat) (τ : jS) : Prop := givP σ (nM (vR σ)) τ ∧ ∀ j : Int, 0 ≤ j → j < gM (vR σ) → τ 52 j = vR σ 1 j - sumN (eatAt (vR σ) j) i
theorem eatAt_b {v : jS} (h : wvB v) (g c : Int) : 0 ≤ eatAt v g c ∧ eatAt v g c ≤ 9 := by
  have := eatsM_b h c
  unfold eatAt
  split <;> omega
def givQ (σ : jS) (τ : jS) : Prop := G3 σ τ ∧ (∀ j : Int, 0 ≤ j → j < σ 36 2 → τ 50 j = eatsM (vR σ) j ∧ τ 51 j = placeM (vR σ) j) ∧ ∀ j : Int, 0 ≤ j → j < σ 36 1 → τ 52 j = leftM (vR σ) j
set_option maxHeartbeats 8000000 in
theorem l_X9_givesC (hok : okG σ) (hvB : wvB (vR σ)) : ∀ (k i : Nat) (d : Int) (τ : jS), i + k = nM (vR σ) → d = i → givP3 σ i τ → J P 4 (RX9, cX9_gives, 5, none) 192 [some (vr P 36), some (vi d), none, none, none] [] τ (qv (givQ σ)) := by
  intro k
  induction k with
  | zero =>
    intro i d τ hi hd hG
    rw [Nat.add_zero] at hi
    refine J.bd (fun hB => ?_)
    have hn : 0 ≤ τ 36 2 ∧ τ 36 2 ≤ 6 := hB 36 2
    have e36 : τ 36 = σ 36 := hG.1.1 36 (by omega) (by omega) (by omega)
    have e2 : nM (vR σ) = (σ 36 2).toNat := rfl
    have e3 : gM (vR σ) = (σ 36 1).toNat := rfl
    rw [e36] at hn
    have en : τ 36 2 = (nM (vR σ) : Nat) := by rw [e36]; omega
    refine J_iload_n (i := 1) 193 dX9_gives_192 rfl rfl rfl ?_
    refine J_aload_n (i := 0) 194 dX9_gives_193 rfl rfl rfl ?_
    refine J_getI (jz := 2) (lo := 0) (hi := 6) 197 dX9_gives_194 rfl fX9_104 rfl rfl rfl rfl (fun b1 b2 => ?_)
    refine J_icmp_ge 226 200 dX9_gives_197 rfl rfl (fun c3 => ?_) (fun c3 => ?_)
    · refine J_vret dX9_gives_226 rfl ?_
      refine ⟨hG.1.1, fun j h1 h2 => hG.1.2 j h1 (by omega), fun j h1 h2 => ?_⟩
      rw [hG.2 j h1 (by omega), hi]
      exact left_eq hvB j
    · exfalso; omega
  | succ k ih =>
    intro i d τ hi hd hG
    refine J.bd (fun hB => ?_)
    have hn : 0 ≤ τ 36 2 ∧ τ 36 2 ≤ 6 := hB 36 2
    have e36 : τ 36 = σ 36 := hG.1.1 36 (by omega) (by omega) (by omega)
    have e41 : τ 41 = σ 41 := hG.1.1 41 (by omega) (by omega) (by omega)
    have e2 : nM (vR σ) = (σ 36 2).toNat := rfl
    have e3 : gM (vR σ) = (σ 36 1).toNat := rfl
    have hn2 := hn
    rw [e36] at hn2
    have en : τ 36 2 = (nM (vR σ) : Nat) := by rw [e36]; omega
    have hgt : 0 ≤ σ 41 d ∧ σ 41 d ≤ 2 := by rw [← e41]; exact hB 41 d
    have hgt2 := hok d (by omega) (by omega)
    have hl := hG.2 (σ 41 d) (by omega) (by omega)
    have hlb := hvB.2.2.2.2.1 (σ 41 d)
    have hsb := sumN_b (eatAt_b hvB (σ 41 d)) i
    have hee := (hG.1.2 d (by omega) (by omega)).1
    have heb := eatsM_b hvB d
    rw [← e41] at hl hlb hsb
    have hnext : givP3 σ (i + 1) (jup τ 52 (τ 41 d) (τ 52 (τ 41 d) - τ 50 d)) := by
      refine ⟨⟨fun q h1 h2 h3 => ?_, fun j h1 h2 => ?_⟩, fun j h1 h2 => ?_⟩
      · rw [← hG.1.1 q h1 h2 h3]
        funext j
        unfold jup
        rw [if_neg h3]
      · exact hG.1.2 j h1 h2
      · have hs : sumN (eatAt (vR σ) j) (i + 1) = sumN (eatAt (vR σ) j) i + eatAt (vR σ) j d := by rw [hd]; rfl
        rw [hs]
        by_cases e : j = τ 41 d
        · have ea : eatAt (vR σ) j d = eatsM (vR σ) d := by
            unfold eatAt
            rw [if_pos (by rw [vR5, e, e41])]
          rw [ea, ← hee]
          have := hG.2 j h1 h2
          subst e
          simp [jup]
          omega
        · have ea : eatAt (vR σ) j d = 0 := by
            unfold eatAt
            rw [if_neg (by rw [vR5, ← e41]; exact fun q => e q.symm)]
          rw [ea]
          have := hG.2 j h1 h2
          simp [jup, e]
          omega
    refine J_iload_n (i := 1) 193 dX9_gives_192 rfl rfl rfl ?_
    refine J_aload_n (i := 0) 194 dX9_gives_193 rfl rfl rfl ?_
    refine J_getI (jz := 2) (lo := 0) (hi := 6) 197 dX9_gives_194 rfl fX9_104 rfl rfl rfl rfl (fun b1 b2 => ?_)
    refine J_icmp_ge 226 200 dX9_gives_197 rfl rfl (fun c3 => ?_) (fun c3 => ?_)
    · exfalso; omega
    · refine J_aload_n (i := 0) 201 dX9_gives_200 rfl rfl rfl ?_
      refine J_getR 204 dX9_gives_201 rfl fX9_55 rfl rfl ?_
      refine J_aload_n (i := 0) 205 dX9_gives_204 rfl rfl rfl ?_
      refine J_getR 208 dX9_gives_205 rfl fX9_22 rfl rfl ?_
      refine J_iload_n (i := 1) 209 dX9_gives_208 rfl rfl rfl ?_
      refine J_iald (N := 6) (lo := 0) (hi := 2) 210 dX9_gives_209 rfl rfl rfl rfl (fun b4 b5 => ?_)
      refine J_dup2 211 dX9_gives_210 rfl rfl rfl ?_
      refine J_iald (N := 3) (lo := (-99)) (hi := 9) 212 dX9_gives_211 rfl rfl rfl rfl (fun b6 b7 => ?_)
      refine J_aload_n (i := 0) 213 dX9_gives_212 rfl rfl rfl ?_
      refine J_getR 216 dX9_gives_213 rfl fX9_49 rfl rfl ?_
      refine J_iload_n (i := 1) 217 dX9_gives_216 rfl rfl rfl ?_
      refine J_iald (N := 6) (lo := 0) (hi := 9) 218 dX9_gives_217 rfl rfl rfl rfl (fun b8 b9 => ?_)
      refine J_isub 219 dX9_gives_218 rfl ?_
      refine J_iast (N := 3) (lo := (-99)) (hi := 9) 220 dX9_gives_219 rfl rfl rfl rfl ?_
      refine J_iinc 223 dX9_gives_220 rfl (by decide) rfl ?_
      refine J_goto 192 dX9_gives_223 rfl ?_
      exact ih (i + 1) (d + 1) _ (by omega) (by omega) hnext
theorem c_X9_gives (hok : okG σ) : Ct P 4 yX9_gives cX9_gives 5 none [vr P 36] σ (qv (givQ σ)) := by
  refine Ct.bd (fun hB => ?_)
  have hvB := vR_B hB
  refine Ct.of _ rfl rfl rfl (Nat.le_of_ble_eq_true rfl) (fun hB => ?_)
  refine J_iconst 1 dX9_gives_0 rfl ?_
  refine J_istore_n (i := 1) 2 dX9_gives_1 rfl rfl (by decide) ?_
  refine l_X9_givesA (σ := σ) (fun τ hτ => ?_) _ 0 _ _ (Nat.zero_add _) rfl ⟨fun _ _ _ _ => rfl, fun j h1 h2 => by omega⟩
  refine J_iconst 163 dX9_gives_162 rfl ?_
  refine J_istore_n (i := 1) 164 dX9_gives_163 rfl rfl (by decide) ?_
  refine l_X9_givesB (σ := σ) (fun τ2 hτ2 => ?_) _ 0 _ _ (Nat.zero_add _) rfl ⟨hτ, fun j h1 h2 => by omega⟩
  refine J_iconst 191 dX9_gives_190 rfl ?_
  refine J_istore_n (i := 1) 192 dX9_gives_191 rfl rfl (by decide) ?_
  exact l_X9_givesC hok hvB _ 0 _ _ (Nat.zero_add _) rfl ⟨hτ2.1, fun j h1 h2 => by rw [hτ2.2 j h1 h2]; show _ = _ - 0; omega⟩
end

