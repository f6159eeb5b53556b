/-! ===== loaves given on ===== -/
theorem J.st {P : jP} {dp : Nat} {M : jMt} {pc : Nat} {L : List (Option Value)} {st : List Value} {σ σ' : jS} {Q : Option Value → jS → Prop} (e : σ' = σ) (h : J P dp M pc L st σ Q) : J P dp M pc L st σ' Q := e ▸ h
theorem jup_undo {σ : jS} {k : Nat} {j z z' : Int} (h : z' = σ k j) : jup (jup σ k j z) k j z' = σ := by
  funext k2 j2
  unfold jup
  by_cases e : k2 = k
  · rw [if_pos e]
    by_cases e2 : j2 = j
    · rw [if_pos e2, h, e, e2]
    · rw [if_neg e2, if_pos e, if_neg e2]
  · rw [if_neg e, if_neg e]
def decF (sp : Int → Int) (i : Int) (j : Int) : Int := if j = i then sp i - 1 else sp j
def givL (kn : Int → Int) (rec : (Int → Int) → Int) (c : Int) (sp : Int → Int) : Nat → Int
  | 0 => -9
  | i + 1 =>
    if (if 0 < sp i then farM kn i c else -9) = -9 then givL kn rec c sp i
    else if rec (decF sp i) = -9 then givL kn rec c sp i
    else if givL kn rec c sp i = -9 ∨ (if 0 < sp i then farM kn i c else -9) + rec (decF sp i) < givL kn rec c sp i then (if 0 < sp i then farM kn i c else -9) + rec (decF sp i)
    else givL kn rec c sp i
def givN (kn : Int → Int) (st : Int) : Nat → Int → (Int → Int) → Int
  | 0, _, _ => 0
  | k + 1, c, sp => if ((st.toNat / 2 ^ c.toNat : Nat) : Int) = 0 then 0 else if iand ((st.toNat / 2 ^ c.toNat : Nat) : Int) 1 = 0 then givN kn st k (c + 1) sp else givL kn (givN kn st k (c + 1)) c sp 6
theorem farM_b (kn : Int → Int) (c d : Int) : -9 ≤ farM kn c d ∧ farM kn c d ≤ 6 ∧ (farM kn c d = -9 ∨ 0 ≤ farM kn c d) := farN_b kn d 6 _ 0 (by omega) (by omega)
theorem givL_b {kn : Int → Int} {rec : (Int → Int) → Int} {c B : Int} (h : ∀ sp, -9 ≤ rec sp ∧ rec sp ≤ B ∧ (rec sp = -9 ∨ 0 ≤ rec sp)) (hB : 0 ≤ B) (sp : Int → Int) (i : Nat) : -9 ≤ givL kn rec c sp i ∧ givL kn rec c sp i ≤ B + 6 ∧ (givL kn rec c sp i = -9 ∨ 0 ≤ givL kn rec c sp i) := by
  induction i with
  | zero => exact ⟨by simp [givL], by simp only [givL]; omega, Or.inl rfl⟩
  | succ i ih =>
    have h1 := h (decF sp i)
    have h2 : (if 0 < sp i then farM kn i c else -9) = -9 ∨ (0 ≤ (if 0 < sp i then farM kn i c else -9) ∧ (if 0 < sp i then farM kn i c else -9) ≤ 6) := by
      have := farM_b kn i c
      split <;> omega
    simp only [givL]
    generalize (if 0 < sp i then farM kn i c else -9) = b at h2 ⊢
    split
    · exact ih
    · split
      · exact ih
      · split
        · omega
        · exact ih
theorem givN_b (kn : Int → Int) (st : Int) : ∀ (k : Nat) (c : Int) (sp : Int → Int), -9 ≤ givN kn st k c sp ∧ givN kn st k c sp ≤ 6 * k ∧ (givN kn st k c sp = -9 ∨ 0 ≤ givN kn st k c sp) := by
  intro k
  induction k with
  | zero => intro c sp; simp [givN]
  | succ k ih =>
    intro c sp
    simp only [givN]
    split
    · omega
    · split
      · have := ih (c + 1) sp
        omega
      · have := givL_b (kn := kn) (rec := givN kn st k (c + 1)) (c := c) (B := 6 * k) (fun sp => ih (c + 1) sp) (by omega) sp 6
        omega
def spareF (v : jS) (c : Int) : Int := if 0 ≤ c ∧ c < v 0 1 then (if 0 < eatsM v c - 1 then eatsM v c - 1 else 0) else 0
def giveM (v : jS) (kn : Int → Int) : Int := givN kn (starvM v) 6 0 (spareF v)
section
variable {P : jP} {w o : Nat} {c d g x y z n : Int} {σ : jS}
set_option maxHeartbeats 4000000 in
theorem l_X1_fewestFrom {k dp : Nat} (hx : 0 ≤ x ∧ x ≤ 63) (hc : 0 ≤ c ∧ c < 6) (hk : k ≤ 5) (hdp : 2 ≤ dp) (hR : ∀ σ : jS, Ct P dp yX1_fewestFrom cX1_fewestFrom 8 (some .int) [vi (c + 1), vi x, vr P 19, vr P 16] σ (rI (givN (σ 17) x k (c + 1) (σ 19)) σ)) : ∀ (kk i : Nat) (d f : Int), i + kk = 6 → d = i → f = givL (σ 17) (givN (σ 17) x k (c + 1)) c (σ 19) i → J P (dp + 1) (RX1, cX1_fewestFrom, 8, some .int) 39 [some (vi c), some (vi x), some (vr P 19), some (vr P 16), some (vi f), some (vi d), none, none] [] σ (rI (givL (σ 17) (givN (σ 17) x k (c + 1)) c (σ 19) 6) σ) := by
  intro kk
  induction kk with
  | zero =>
    intro i d f hi hd hf
    refine J_iload 41 dX1_fewestFrom_39 rfl rfl ?_
    refine J_bipush 43 dX1_fewestFrom_41 rfl (by decide) ?_
    refine J_icmp_ge 141 46 dX1_fewestFrom_43 rfl rfl (fun c1 => ?_) (fun c1 => ?_)
    · refine J_iload 143 dX1_fewestFrom_141 rfl rfl ?_
      refine J.bd (fun hB => ?_)
      refine J_iret dX1_fewestFrom_143 rfl ?_
      refine ⟨?_, rfl⟩
      rw [Nat.add_zero] at hi
      subst hi
      exact hf.symm
    · exfalso; omega
  | succ kk ih =>
    intro i d f hi hd hf
    refine J.bd (fun hB => ?_)
    have hgb := givL_b (kn := σ 17) (rec := givN (σ 17) x k (c + 1)) (c := c) (B := 36) (fun sp => by have := givN_b (σ 17) x k (c + 1) sp; omega) (by omega) (σ 19) i
    have hfb := farM_b (σ 17) i c
    have hob := givN_b (σ 17) x k (c + 1) (decF (σ 19) i)
    have hrow : jup σ 19 i (σ 19 i - 1) 19 = decF (σ 19) i := by
      funext j
      simp [jup, decF]
    have hrow17 : jup σ 19 i (σ 19 i - 1) 17 = σ 17 := by
      funext j
      simp [jup]
    have hnext : givL (σ 17) (givN (σ 17) x k (c + 1)) c (σ 19) (i + 1) = if (if 0 < σ 19 i then farM (σ 17) i c else -9) = -9 then givL (σ 17) (givN (σ 17) x k (c + 1)) c (σ 19) i
      else if givN (σ 17) x k (c + 1) (decF (σ 19) i) = -9 then givL (σ 17) (givN (σ 17) x k (c + 1)) c (σ 19) i
      else if givL (σ 17) (givN (σ 17) x k (c + 1)) c (σ 19) i = -9 ∨ (if 0 < σ 19 i then farM (σ 17) i c else -9) + givN (σ 17) x k (c + 1) (decF (σ 19) i) < givL (σ 17) (givN (σ 17) x k (c + 1)) c (σ 19) i then (if 0 < σ 19 i then farM (σ 17) i c else -9) + givN (σ 17) x k (c + 1) (decF (σ 19) i)
      else givL (σ 17) (givN (σ 17) x k (c + 1)) c (σ 19) i := rfl
    rw [← hf] at hnext hgb
    subst hd
    refine J_iload 41 dX1_fewestFrom_39 rfl rfl ?_
    refine J_bipush 43 dX1_fewestFrom_41 rfl (by decide) ?_
    refine J_icmp_ge 141 46 dX1_fewestFrom_43 rfl rfl (fun c1 => ?_) (fun c1 => ?_)
    · exfalso; omega
    · refine J_aload_n (i := 2) 47 dX1_fewestFrom_46 rfl rfl rfl ?_
      refine J_iload 49 dX1_fewestFrom_47 rfl rfl ?_
      refine J_iald (N := 6) (lo := 0) (hi := 9) 50 dX1_fewestFrom_49 rfl rfl rfl rfl (fun b2 b3 => ?_)
      refine J_if_le 63 53 dX1_fewestFrom_50 rfl rfl (fun c4 => ?_) (fun c4 => ?_)
      · refine J_bipush 65 dX1_fewestFrom_63 rfl (by decide) ?_
        refine J_istore 67 dX1_fewestFrom_65 rfl (by decide) ?_
        refine J_iload 69 dX1_fewestFrom_67 rfl rfl ?_
        refine J_bipush 71 dX1_fewestFrom_69 rfl (by decide) ?_
        refine J_icmp_ne 77 74 dX1_fewestFrom_71 rfl rfl (fun c5 => ?_) (fun c5 => ?_)
        · refine J_aload_n (i := 2) 78 dX1_fewestFrom_77 rfl rfl rfl ?_
          refine J_iload 80 dX1_fewestFrom_78 rfl rfl ?_
          refine J_dup2 81 dX1_fewestFrom_80 rfl rfl rfl ?_
          refine J_iald (N := 6) (lo := 0) (hi := 9) 82 dX1_fewestFrom_81 rfl rfl rfl rfl (fun b6 b7 => ?_)
          refine J_iconst 83 dX1_fewestFrom_82 rfl ?_
          refine J_isub 84 dX1_fewestFrom_83 rfl ?_
          refine J_iast (N := 6) (lo := 0) (hi := 9) 85 dX1_fewestFrom_84 rfl rfl rfl rfl ?_
          refine J_iload_n (i := 0) 86 dX1_fewestFrom_85 rfl rfl rfl ?_
          refine J_iconst 87 dX1_fewestFrom_86 rfl ?_
          refine J_iadd 88 dX1_fewestFrom_87 rfl ?_
          refine J_iload_n (i := 1) 89 dX1_fewestFrom_88 rfl rfl rfl ?_
          refine J_aload_n (i := 2) 90 dX1_fewestFrom_89 rfl rfl rfl ?_
          refine J_aload_n (i := 3) 91 dX1_fewestFrom_90 rfl rfl rfl ?_
          refine J_callSi 94 dX1_fewestFrom_91 rfl kX1_35 mX1_fewestFrom (hR _) (by first | decide | omega) rfl rfl (Nat.le_of_ble_eq_true rfl) (fun z9 s10 h8 => ?_)
          obtain ⟨rfl, rfl⟩ := h8
          rw [hrow, hrow17]
          refine J_istore 96 dX1_fewestFrom_94 rfl (by decide) ?_
          refine J_aload_n (i := 2) 97 dX1_fewestFrom_96 rfl rfl rfl ?_
          refine J_iload 99 dX1_fewestFrom_97 rfl rfl ?_
          refine J_dup2 100 dX1_fewestFrom_99 rfl rfl rfl ?_
          refine J_iald (N := 6) (lo := 0) (hi := 9) 101 dX1_fewestFrom_100 rfl rfl rfl rfl (fun b11 b12 => ?_)
          try simp only [jup, jset, ↓reduceIte] at b11 b12 ⊢
          refine J_iconst 102 dX1_fewestFrom_101 rfl ?_
          refine J_iadd 103 dX1_fewestFrom_102 rfl ?_
          refine J_iast (N := 6) (lo := 0) (hi := 9) 104 dX1_fewestFrom_103 rfl rfl rfl rfl ?_
          refine J.st (jup_undo (by omega)) ?_
          refine J_iload 106 dX1_fewestFrom_104 rfl rfl ?_
          refine J_bipush 108 dX1_fewestFrom_106 rfl (by decide) ?_
          refine J_icmp_eq 135 111 dX1_fewestFrom_108 rfl rfl (fun c13 => ?_) (fun c13 => ?_)
          · refine J_iinc 138 dX1_fewestFrom_135 rfl (by decide) rfl ?_
            refine J_goto 39 dX1_fewestFrom_138 rfl ?_
            refine J.wk (ih (i + 1) _ _ (by omega) rfl ?_) ⟨rfl, rfl, rfl, rfl, rfl, rfl, trivial⟩
            rw [hnext]
            first | (exfalso; omega) | (rw [if_neg (show ¬ 0 < σ 19 i by omega), if_pos rfl]; done) | (rw [if_pos (show 0 < σ 19 i by omega)]; first | (rw [if_pos (by omega)]; done) | (rw [if_neg (by omega), if_pos (by omega)]; done) | (rw [if_neg (by omega), if_neg (by omega), if_pos (by omega)]; done) | (rw [if_neg (by omega), if_neg (by omega), if_neg (by omega)]; done))
          · refine J_iload 113 dX1_fewestFrom_111 rfl rfl ?_
            refine J_bipush 115 dX1_fewestFrom_113 rfl (by decide) ?_
            refine J_icmp_eq 128 118 dX1_fewestFrom_115 rfl rfl (fun c14 => ?_) (fun c14 => ?_)
            · refine J_iload 130 dX1_fewestFrom_128 rfl rfl ?_
              refine J_iload 132 dX1_fewestFrom_130 rfl rfl ?_
              refine J_iadd 133 dX1_fewestFrom_132 rfl ?_
              refine J_istore 135 dX1_fewestFrom_133 rfl (by decide) ?_
              refine J_iinc 138 dX1_fewestFrom_135 rfl (by decide) rfl ?_
              refine J_goto 39 dX1_fewestFrom_138 rfl ?_
              refine J.wk (ih (i + 1) _ _ (by omega) rfl ?_) ⟨rfl, rfl, rfl, rfl, rfl, rfl, trivial⟩
              rw [hnext]
              first | (exfalso; omega) | (rw [if_neg (show ¬ 0 < σ 19 i by omega), if_pos rfl]; done) | (rw [if_pos (show 0 < σ 19 i by omega)]; first | (rw [if_pos (by omega)]; done) | (rw [if_neg (by omega), if_pos (by omega)]; done) | (rw [if_neg (by omega), if_neg (by omega), if_pos (by omega)]; done) | (rw [if_neg (by omega), if_neg (by omega), if_neg (by omega)]; done))
            · refine J_iload 120 dX1_fewestFrom_118 rfl rfl ?_
              refine J_iload 122 dX1_fewestFrom_120 rfl rfl ?_
              refine J_iadd 123 dX1_fewestFrom_122 rfl ?_
              refine J_iload 125 dX1_fewestFrom_123 rfl rfl ?_
              refine J_icmp_ge 135 128 dX1_fewestFrom_125 rfl rfl (fun c15 => ?_) (fun c15 => ?_)
              · refine J_iinc 138 dX1_fewestFrom_135 rfl (by decide) rfl ?_
                refine J_goto 39 dX1_fewestFrom_138 rfl ?_
                refine J.wk (ih (i + 1) _ _ (by omega) rfl ?_) ⟨rfl, rfl, rfl, rfl, rfl, rfl, trivial⟩
                rw [hnext]
                first | (exfalso; omega) | (rw [if_neg (show ¬ 0 < σ 19 i by omega), if_pos rfl]; done) | (rw [if_pos (show 0 < σ 19 i by omega)]; first | (rw [if_pos (by omega)]; done) | (rw [if_neg (by omega), if_pos (by omega)]; done) | (rw [if_neg (by omega), if_neg (by omega), if_pos (by omega)]; done) | (rw [if_neg (by omega), if_neg (by omega), if_neg (by omega)]; done))
              · refine J_iload 130 dX1_fewestFrom_128 rfl rfl ?_
                refine J_iload 132 dX1_fewestFrom_130 rfl rfl ?_
                refine J_iadd 133 dX1_fewestFrom_132 rfl ?_
                refine J_istore 135 dX1_fewestFrom_133 rfl (by decide) ?_
                refine J_iinc 138 dX1_fewestFrom_135 rfl (by decide) rfl ?_
                refine J_goto 39 dX1_fewestFrom_138 rfl ?_
                refine J.wk (ih (i + 1) _ _ (by omega) rfl ?_) ⟨rfl, rfl, rfl, rfl, rfl, rfl, trivial⟩
                rw [hnext]
                first | (exfalso; omega) | (rw [if_neg (show ¬ 0 < σ 19 i by omega), if_pos rfl]; done) | (rw [if_pos (show 0 < σ 19 i by omega)]; first | (rw [if_pos (by omega)]; done) | (rw [if_neg (by omega), if_pos (by omega)]; done) | (rw [if_neg (by omega), if_neg (by omega), if_pos (by omega)]; done) | (rw [if_neg (by omega), if_neg (by omega), if_neg (by omega)]; done))
        · refine J_goto 135 dX1_fewestFrom_74 rfl ?_
          refine J_iinc 138 dX1_fewestFrom_135 rfl (by decide) rfl ?_
          refine J_goto 39 dX1_fewestFrom_138 rfl ?_
          refine J.wk (ih (i + 1) _ _ (by omega) rfl ?_) ⟨rfl, rfl, rfl, rfl, rfl, rfl, trivial⟩
          rw [hnext]
          first | (exfalso; omega) | (rw [if_neg (show ¬ 0 < σ 19 i by omega), if_pos rfl]; done) | (rw [if_pos (show 0 < σ 19 i by omega)]; first | (rw [if_pos (by omega)]; done) | (rw [if_neg (by omega), if_pos (by omega)]; done) | (rw [if_neg (by omega), if_neg (by omega), if_pos (by omega)]; done) | (rw [if_neg (by omega), if_neg (by omega), if_neg (by omega)]; done))
      · refine J_aload_n (i := 3) 54 dX1_fewestFrom_53 rfl rfl rfl ?_
        refine J_iload 56 dX1_fewestFrom_54 rfl rfl ?_
        refine J_iload_n (i := 0) 57 dX1_fewestFrom_56 rfl rfl rfl ?_
        refine J_callVi 60 dX1_fewestFrom_57 rfl kX1_39 mX0_stepsBetween rfl rfl rfl (c_X0_stepsBetween) (by first | decide | omega) rfl rfl (Nat.le_of_ble_eq_true rfl) (fun z17 s18 h16 => ?_)
        obtain ⟨rfl, rfl⟩ := h16
        refine J_goto 65 dX1_fewestFrom_60 rfl ?_
        refine J_istore 67 dX1_fewestFrom_65 rfl (by decide) ?_
        refine J_iload 69 dX1_fewestFrom_67 rfl rfl ?_
        refine J_bipush 71 dX1_fewestFrom_69 rfl (by decide) ?_
        refine J_icmp_ne 77 74 dX1_fewestFrom_71 rfl rfl (fun c19 => ?_) (fun c19 => ?_)
        · refine J_aload_n (i := 2) 78 dX1_fewestFrom_77 rfl rfl rfl ?_
          refine J_iload 80 dX1_fewestFrom_78 rfl rfl ?_
          refine J_dup2 81 dX1_fewestFrom_80 rfl rfl rfl ?_
          refine J_iald (N := 6) (lo := 0) (hi := 9) 82 dX1_fewestFrom_81 rfl rfl rfl rfl (fun b20 b21 => ?_)
          refine J_iconst 83 dX1_fewestFrom_82 rfl ?_
          refine J_isub 84 dX1_fewestFrom_83 rfl ?_
          refine J_iast (N := 6) (lo := 0) (hi := 9) 85 dX1_fewestFrom_84 rfl rfl rfl rfl ?_
          refine J_iload_n (i := 0) 86 dX1_fewestFrom_85 rfl rfl rfl ?_
          refine J_iconst 87 dX1_fewestFrom_86 rfl ?_
          refine J_iadd 88 dX1_fewestFrom_87 rfl ?_
          refine J_iload_n (i := 1) 89 dX1_fewestFrom_88 rfl rfl rfl ?_
          refine J_aload_n (i := 2) 90 dX1_fewestFrom_89 rfl rfl rfl ?_
          refine J_aload_n (i := 3) 91 dX1_fewestFrom_90 rfl rfl rfl ?_
          refine J_callSi 94 dX1_fewestFrom_91 rfl kX1_35 mX1_fewestFrom (hR _) (by first | decide | omega) rfl rfl (Nat.le_of_ble_eq_true rfl) (fun z23 s24 h22 => ?_)
          obtain ⟨rfl, rfl⟩ := h22
          rw [hrow, hrow17]
          refine J_istore 96 dX1_fewestFrom_94 rfl (by decide) ?_
          refine J_aload_n (i := 2) 97 dX1_fewestFrom_96 rfl rfl rfl ?_
          refine J_iload 99 dX1_fewestFrom_97 rfl rfl ?_
          refine J_dup2 100 dX1_fewestFrom_99 rfl rfl rfl ?_
          refine J_iald (N := 6) (lo := 0) (hi := 9) 101 dX1_fewestFrom_100 rfl rfl rfl rfl (fun b25 b26 => ?_)
          try simp only [jup, jset, ↓reduceIte] at b25 b26 ⊢
          refine J_iconst 102 dX1_fewestFrom_101 rfl ?_
          refine J_iadd 103 dX1_fewestFrom_102 rfl ?_
          refine J_iast (N := 6) (lo := 0) (hi := 9) 104 dX1_fewestFrom_103 rfl rfl rfl rfl ?_
          refine J.st (jup_undo (by omega)) ?_
          refine J_iload 106 dX1_fewestFrom_104 rfl rfl ?_
          refine J_bipush 108 dX1_fewestFrom_106 rfl (by decide) ?_
          refine J_icmp_eq 135 111 dX1_fewestFrom_108 rfl rfl (fun c27 => ?_) (fun c27 => ?_)
          · refine J_iinc 138 dX1_fewestFrom_135 rfl (by decide) rfl ?_
            refine J_goto 39 dX1_fewestFrom_138 rfl ?_
            refine J.wk (ih (i + 1) _ _ (by omega) rfl ?_) ⟨rfl, rfl, rfl, rfl, rfl, rfl, trivial⟩
            rw [hnext]
            first | (exfalso; omega) | (rw [if_neg (show ¬ 0 < σ 19 i by omega), if_pos rfl]; done) | (rw [if_pos (show 0 < σ 19 i by omega)]; first | (rw [if_pos (by omega)]; done) | (rw [if_neg (by omega), if_pos (by omega)]; done) | (rw [if_neg (by omega), if_neg (by omega), if_pos (by omega)]; done) | (rw [if_neg (by omega), if_neg (by omega), if_neg (by omega)]; done))
          · refine J_iload 113 dX1_fewestFrom_111 rfl rfl ?_
            refine J_bipush 115 dX1_fewestFrom_113 rfl (by decide) ?_
            refine J_icmp_eq 128 118 dX1_fewestFrom_115 rfl rfl (fun c28 => ?_) (fun c28 => ?_)
            · refine J_iload 130 dX1_fewestFrom_128 rfl rfl ?_
              refine J_iload 132 dX1_fewestFrom_130 rfl rfl ?_
              refine J_iadd 133 dX1_fewestFrom_132 rfl ?_
              refine J_istore 135 dX1_fewestFrom_133 rfl (by decide) ?_
              refine J_iinc 138 dX1_fewestFrom_135 rfl (by decide) rfl ?_
              refine J_goto 39 dX1_fewestFrom_138 rfl ?_
              refine J.wk (ih (i + 1) _ _ (by omega) rfl ?_) ⟨rfl, rfl, rfl, rfl, rfl, rfl, trivial⟩
              rw [hnext]
              first | (exfalso; omega) | (rw [if_neg (show ¬ 0 < σ 19 i by omega), if_pos rfl]; done) | (rw [if_pos (show 0 < σ 19 i by omega)]; first | (rw [if_pos (by omega)]; done) | (rw [if_neg (by omega), if_pos (by omega)]; done) | (rw [if_neg (by omega), if_neg (by omega), if_pos (by omega)]; done) | (rw [if_neg (by omega), if_neg (by omega), if_neg (by omega)]; done))
            · refine J_iload 120 dX1_fewestFrom_118 rfl rfl ?_
              refine J_iload 122 dX1_fewestFrom_120 rfl rfl ?_
              refine J_iadd 123 dX1_fewestFrom_122 rfl ?_
              refine J_iload 125 dX1_fewestFrom_123 rfl rfl ?_
              refine J_icmp_ge 135 128 dX1_fewestFrom_125 rfl rfl (fun c29 => ?_) (fun c29 => ?_)
              · refine J_iinc 138 dX1_fewestFrom_135 rfl (by decide) rfl ?_
                refine J_goto 39 dX1_fewestFrom_138 rfl ?_
                refine J.wk (ih (i + 1) _ _ (by omega) rfl ?_) ⟨rfl, rfl, rfl, rfl, rfl, rfl, trivial⟩
                rw [hnext]
                first | (exfalso; omega) | (rw [if_neg (show ¬ 0 < σ 19 i by omega), if_pos rfl]; done) | (rw [if_pos (show 0 < σ 19 i by omega)]; first | (rw [if_pos (by omega)]; done) | (rw [if_neg (by omega), if_pos (by omega)]; done) | (rw [if_neg (by omega), if_neg (by omega), if_pos (by omega)]; done) | (rw [if_neg (by omega), if_neg (by omega), if_neg (by omega)]; done))
              · refine J_iload 130 dX1_fewestFrom_128 rfl rfl ?_
                refine J_iload 132 dX1_fewestFrom_130 rfl rfl ?_
                refine J_iadd 133 dX1_fewestFrom_132 rfl ?_
                refine J_istore 135 dX1_fewestFrom_133 rfl (by decide) ?_
                refine J_iinc 138 dX1_fewestFrom_135 rfl (by decide) rfl ?_
                refine J_goto 39 dX1_fewestFrom_138 rfl ?_
                refine J.wk (ih (i + 1) _ _ (by omega) rfl ?_) ⟨rfl, rfl, rfl, rfl, rfl, rfl, trivial⟩
                rw [hnext]
                first | (exfalso; omega) | (rw [if_neg (show ¬ 0 < σ 19 i by omega), if_pos rfl]; done) | (rw [if_pos (show 0 < σ 19 i by omega)]; first | (rw [if_pos (by omega)]; done) | (rw [if_neg (by omega), if_pos (by omega)]; done) | (rw [if_neg (by omega), if_neg (by omega), if_pos (by omega)]; done) | (rw [if_neg (by omega), if_neg (by omega), if_neg (by omega)]; done))
        · refine J_goto 135 dX1_fewestFrom_74 rfl ?_
          refine J_iinc 138 dX1_fewestFrom_135 rfl (by decide) rfl ?_
          refine J_goto 39 dX1_fewestFrom_138 rfl ?_
          refine J.wk (ih (i + 1) _ _ (by omega) rfl ?_) ⟨rfl, rfl, rfl, rfl, rfl, rfl, trivial⟩
          rw [hnext]
          first | (exfalso; omega) | (rw [if_neg (show ¬ 0 < σ 19 i by omega), if_pos rfl]; done) | (rw [if_pos (show 0 < σ 19 i by omega)]; first | (rw [if_pos (by omega)]; done) | (rw [if_neg (by omega), if_pos (by omega)]; done) | (rw [if_neg (by omega), if_neg (by omega), if_pos (by omega)]; done) | (rw [if_neg (by omega), if_neg (by omega), if_neg (by omega)]; done))
theorem c_X1_fewestFrom (hx : 0 ≤ x ∧ x ≤ 63) : ∀ (k : Nat) (c : Int) (σ : jS), c + k = 6 → 0 ≤ c → Ct P (k + 3) yX1_fewestFrom cX1_fewestFrom 8 (some .int) [vi c, vi x, vr P 19, vr P 16] σ (rI (givN (σ 17) x k c (σ 19)) σ) := by
  intro k
  induction k with
  | zero =>
    intro c σ hc hc0
    refine Ct.of _ rfl rfl rfl (Nat.le_of_ble_eq_true rfl) (fun hB => ?_)
    refine J_iload_n (i := 0) 1 dX1_fewestFrom_0 rfl rfl rfl ?_
    refine J_bipush 3 dX1_fewestFrom_1 rfl (by decide) ?_
    refine J_icmp_ge 12 6 dX1_fewestFrom_3 rfl rfl (fun c1 => ?_) (fun c1 => ?_)
    · refine J_iconst 13 dX1_fewestFrom_12 rfl ?_
      refine J_iret dX1_fewestFrom_13 rfl ?_
      exact ⟨rfl, rfl⟩
    · exfalso; omega
  | succ k ih =>
    intro c σ hc hc0
    have hdv := sh_b (a := x.toNat) c (by omega)
    have hbb := bit_b (x.toNat / 2 ^ c.toNat)
    refine Ct.of _ rfl rfl rfl (Nat.le_of_ble_eq_true rfl) (fun hB => ?_)
    refine J_iload_n (i := 0) 1 dX1_fewestFrom_0 rfl rfl rfl ?_
    refine J_bipush 3 dX1_fewestFrom_1 rfl (by decide) ?_
    refine J_icmp_ge 12 6 dX1_fewestFrom_3 rfl rfl (fun c1 => ?_) (fun c1 => ?_)
    · refine J_iconst 13 dX1_fewestFrom_12 rfl ?_
      refine J_iret dX1_fewestFrom_13 rfl ?_
      refine ⟨?_, rfl⟩
      simp only [givN]
      first | (rw [if_pos (by omega)]; done) | (rw [if_neg (by omega), if_pos (by omega)]; done) | (exfalso; omega)
    · refine J_iload_n (i := 1) 7 dX1_fewestFrom_6 rfl rfl rfl ?_
      refine J_iload_n (i := 0) 8 dX1_fewestFrom_7 rfl rfl rfl ?_
      refine J_ishr 9 dX1_fewestFrom_8 rfl ?_
      refine J_if_ne 14 12 dX1_fewestFrom_9 rfl rfl (fun c2 => ?_) (fun c2 => ?_)
      · refine J_iload_n (i := 1) 15 dX1_fewestFrom_14 rfl rfl rfl ?_
        refine J_iload_n (i := 0) 16 dX1_fewestFrom_15 rfl rfl rfl ?_
        refine J_ishr 17 dX1_fewestFrom_16 rfl ?_
        refine J_iconst 18 dX1_fewestFrom_17 rfl ?_
        refine J_iand 19 dX1_fewestFrom_18 rfl ?_
        refine J_if_ne 32 22 dX1_fewestFrom_19 rfl rfl (fun c3 => ?_) (fun c3 => ?_)
        · refine J_bipush 34 dX1_fewestFrom_32 rfl (by decide) ?_
          refine J_istore 36 dX1_fewestFrom_34 rfl (by decide) ?_
          refine J_iconst 37 dX1_fewestFrom_36 rfl ?_
          refine J_istore 39 dX1_fewestFrom_37 rfl (by decide) ?_
          have h39 := l_X1_fewestFrom (P := P) (σ := σ) (x := x) (c := c) (k := k) (dp := k + 3) hx (by omega) (by omega) (by omega) (fun σ => ih (c + 1) σ (by omega) (by omega)) 6 0 0 (-9) rfl rfl rfl
          simp only [givN]
          rw [if_neg (by omega), if_neg (by omega)]
          exact J.wk h39 ⟨rfl, rfl, rfl, rfl, rfl, rfl, trivial⟩
        · refine J_iload_n (i := 0) 23 dX1_fewestFrom_22 rfl rfl rfl ?_
          refine J_iconst 24 dX1_fewestFrom_23 rfl ?_
          refine J_iadd 25 dX1_fewestFrom_24 rfl ?_
          refine J_iload_n (i := 1) 26 dX1_fewestFrom_25 rfl rfl rfl ?_
          refine J_aload_n (i := 2) 27 dX1_fewestFrom_26 rfl rfl rfl ?_
          refine J_aload_n (i := 3) 28 dX1_fewestFrom_27 rfl rfl rfl ?_
          refine J_callSi 31 dX1_fewestFrom_28 rfl kX1_35 mX1_fewestFrom (ih (c + 1) _ (by omega) (by omega)) (by first | decide | omega) rfl rfl (Nat.le_of_ble_eq_true rfl) (fun z5 s6 h4 => ?_)
          obtain ⟨rfl, rfl⟩ := h4
          refine J_iret dX1_fewestFrom_31 rfl ?_
          refine ⟨?_, rfl⟩
          simp only [givN]
          first | (rw [if_pos (by omega)]; done) | (rw [if_neg (by omega), if_pos (by omega)]; done) | (exfalso; omega)
      · refine J_iconst 13 dX1_fewestFrom_12 rfl ?_
        refine J_iret dX1_fewestFrom_13 rfl ?_
        refine ⟨?_, rfl⟩
        simp only [givN]
        first | (rw [if_pos (by omega)]; done) | (rw [if_neg (by omega), if_pos (by omega)]; done) | (exfalso; omega)

set_option maxHeartbeats 4000000 in
theorem l_X1_fewestSteps : ∀ (k i : Nat) (d : Int) (τ : jS), i + k = 6 → d = i → τ = jset σ 19 (mixN (spareF (vC σ 1)) (σ 19) i) → J P 10 (RX1, cX1_fewestSteps, 4, some .int) 2 [some (vr P 18), some (vr P 1), some (vr P 16), some (vi d)] [] τ (qi fun z σ' => giveM (vC σ 1) (σ 17) = z ∧ ∀ q, q ≠ 19 → σ' q = σ q) := by
  intro k
  induction k with
  | zero =>
    intro i d τ hi hd hτ
    rw [Nat.add_zero] at hi
    refine J.bd (fun hB => ?_)
    have hwb := vC_B hB (w := 1) (Or.inl rfl)
    have e1 : vC τ 1 = vC σ 1 := by rw [hτ, vC_set_ne _ _ _ _ (by omega)]
    rw [e1] at hwb
    have heb := fun c => eatsM_b hwb c
    have hsb := starvM_b hwb
    have e2 : vC (jset σ 19 (spareF (vC σ 1))) 1 = vC σ 1 := vC_set_ne _ _ _ _ (by omega)
    have e3 : (jset σ 19 (spareF (vC σ 1))) 19 = spareF (vC σ 1) := by funext j; simp [jset]
    have e4 : (jset σ 19 (spareF (vC σ 1))) 17 = σ 17 := by funext j; simp [jset]
    refine J_iload_n (i := 3) 3 dX1_fewestSteps_2 rfl rfl rfl ?_
    refine J_bipush 5 dX1_fewestSteps_3 rfl (by decide) ?_
    refine J_icmp_ge 43 8 dX1_fewestSteps_5 rfl rfl (fun c1 => ?_) (fun c1 => ?_)
    · subst hτ hi
      refine J.norm (mix_all rfl rfl) (fun B => ?_) ?_
      · rw [← jset_set σ 19 (mixN (spareF (vC σ 1)) (σ 19) 6)]
        refine jBd_set B (fun j => ?_)
        show 0 ≤ spareF (vC σ 1) j ∧ spareF (vC σ 1) j ≤ 9
        have := heb j
        unfold spareF
        split
        · split <;> omega
        · omega
      refine J.bd (fun hB => ?_)
      refine J_iconst 44 dX1_fewestSteps_43 rfl ?_
      refine J_aload_n (i := 1) 45 dX1_fewestSteps_44 rfl rfl rfl ?_
      refine J_callVi 48 dX1_fewestSteps_45 rfl kX1_31 mX7_starving rfl rfl rfl (c_X7_starving) (by first | decide | omega) rfl rfl (Nat.le_of_ble_eq_true rfl) (fun z3 s4 h2 => ?_)
      obtain ⟨rfl, rfl⟩ := h2
      rw [e2]
      refine J_aload_n (i := 0) 49 dX1_fewestSteps_48 rfl rfl rfl ?_
      refine J_getR 52 dX1_fewestSteps_49 rfl fX1_9 rfl rfl ?_
      refine J_aload_n (i := 2) 53 dX1_fewestSteps_52 rfl rfl rfl ?_
      refine J_callSi 56 dX1_fewestSteps_53 rfl kX1_35 mX1_fewestFrom (c_X1_fewestFrom hsb 6 0 _ rfl (by omega)) (by first | decide | omega) rfl rfl (Nat.le_of_ble_eq_true rfl) (fun z6 s7 h5 => ?_)
      obtain ⟨rfl, rfl⟩ := h5
      refine J_iret dX1_fewestSteps_56 rfl ?_
      refine ⟨?_, fun q hq => by funext j; simp [jset, hq]⟩
      rw [e3, e4]
      rfl
    · exfalso; omega
  | succ k ih =>
    intro i d τ hi hd hτ
    refine J.bd (fun hB => ?_)
    have hwb := vC_B hB (w := 1) (Or.inl rfl)
    have e1 : vC τ 1 = vC σ 1 := by rw [hτ, vC_set_ne _ _ _ _ (by omega)]
    have e5 : τ 1 1 = vC σ 1 0 1 := by rw [← e1]; rfl
    rw [e1] at hwb
    have heb := eatsM_b hwb d
    have hn6 := hwb.2.1
    have hsp : spareF (vC σ 1) d = if 0 ≤ d ∧ d < τ 1 1 then (if 0 < eatsM (vC σ 1) d - 1 then eatsM (vC σ 1) d - 1 else 0) else 0 := by rw [e5]; rfl
    have hsb : 0 ≤ (if 0 < eatsM (vC σ 1) d - 1 then eatsM (vC σ 1) d - 1 else 0) ∧ (if 0 < eatsM (vC σ 1) d - 1 then eatsM (vC σ 1) d - 1 else 0) ≤ 9 := by split <;> omega
    refine J_iload_n (i := 3) 3 dX1_fewestSteps_2 rfl rfl rfl ?_
    refine J_bipush 5 dX1_fewestSteps_3 rfl (by decide) ?_
    refine J_icmp_ge 43 8 dX1_fewestSteps_5 rfl rfl (fun c1 => ?_) (fun c1 => ?_)
    · exfalso; omega
    · refine J_aload_n (i := 0) 9 dX1_fewestSteps_8 rfl rfl rfl ?_
      refine J_getR 12 dX1_fewestSteps_9 rfl fX1_9 rfl rfl ?_
      refine J_iload_n (i := 3) 13 dX1_fewestSteps_12 rfl rfl rfl ?_
      refine J_aload_n (i := 1) 14 dX1_fewestSteps_13 rfl rfl rfl ?_
      refine J_iload_n (i := 3) 15 dX1_fewestSteps_14 rfl rfl rfl ?_
      refine J_callVi 18 dX1_fewestSteps_15 rfl kX1_15 mX7_hasComer rfl rfl rfl (c_X7_hasComer) (by first | decide | omega) rfl rfl (Nat.le_of_ble_eq_true rfl) (fun z3 s4 h2 => ?_)
      obtain ⟨rfl, rfl⟩ := h2
      refine J_bif_eq 35 21 dX1_fewestSteps_18 rfl rfl (fun c5 => ?_) (fun c5 => ?_)
      · refine J_iconst 36 dX1_fewestSteps_35 rfl ?_
        refine J_iast (N := 6) (lo := 0) (hi := 9) 37 dX1_fewestSteps_36 rfl rfl rfl rfl ?_
        refine J_iinc 40 dX1_fewestSteps_37 rfl (by decide) rfl ?_
        refine J_goto 2 dX1_fewestSteps_40 rfl ?_
        refine ih (i + 1) _ _ (by omega) (by omega) ?_
        rw [hτ, hd]
        refine mix_up ?_
        rw [← hd, hsp]
        first | exact (if_pos (show 0 ≤ d ∧ d < τ 1 1 by omega)).symm | exact (if_neg (show ¬ (0 ≤ d ∧ d < τ 1 1) by omega)).symm
      · refine J_iconst 22 dX1_fewestSteps_21 rfl ?_
        refine J_aload_n (i := 1) 23 dX1_fewestSteps_22 rfl rfl rfl ?_
        refine J_iload_n (i := 3) 24 dX1_fewestSteps_23 rfl rfl rfl ?_
        refine J_callVi 27 dX1_fewestSteps_24 rfl kX1_21 mX7_eats rfl rfl rfl (c_X7_eats) (by first | decide | omega) rfl rfl (Nat.le_of_ble_eq_true rfl) (fun z7 s8 h6 => ?_)
        obtain ⟨rfl, rfl⟩ := h6
        rw [e1]
        refine J_iconst 28 dX1_fewestSteps_27 rfl ?_
        refine J_isub 29 dX1_fewestSteps_28 rfl ?_
        refine J_mmax 32 dX1_fewestSteps_29 rfl kX1_25 (by decide) (Nat.le_of_ble_eq_true rfl) ?_
        refine J_goto 36 dX1_fewestSteps_32 rfl ?_
        refine J_iast (N := 6) (lo := 0) (hi := 9) 37 dX1_fewestSteps_36 rfl rfl rfl rfl ?_
        refine J_iinc 40 dX1_fewestSteps_37 rfl (by decide) rfl ?_
        refine J_goto 2 dX1_fewestSteps_40 rfl ?_
        refine ih (i + 1) _ _ (by omega) (by omega) ?_
        rw [hτ, hd]
        refine mix_up ?_
        rw [← hd, hsp]
        first | exact (if_pos (show 0 ≤ d ∧ d < τ 1 1 by omega)).symm | exact (if_neg (show ¬ (0 ≤ d ∧ d < τ 1 1) by omega)).symm
theorem c_X1_fewestSteps : Ct P 10 yX1_fewestSteps cX1_fewestSteps 4 (some .int) [vr P 18, vr P 1, vr P 16] σ (qi fun z σ' => giveM (vC σ 1) (σ 17) = z ∧ ∀ q, q ≠ 19 → σ' q = σ q) := by
  refine Ct.of _ rfl rfl rfl (Nat.le_of_ble_eq_true rfl) (fun hB => ?_)
  refine J_iconst 1 dX1_fewestSteps_0 rfl ?_
  refine J_istore_n (i := 3) 2 dX1_fewestSteps_1 rfl rfl (by decide) ?_
  exact l_X1_fewestSteps 6 0 _ _ rfl rfl (mix_0 _ _ _)
end

