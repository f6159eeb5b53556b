/-! ===== the reference: given ===== -/
def refW (n : Int) (out : Int → Bool) (fr : Int → Int → Int) : Nat → Int → Int → (Int → Int) → Int
  | 0, _, _, _ => 0
  | k + 1, c, lf, sp => if out c = true then (if (0 < sp (lf % n) ∧ 0 ≤ fr (lf % n) c) ∧ refW n out fr k (c + 1) (lf / n) (decF sp (lf % n)) ≠ -9 then fr (lf % n) c + refW n out fr k (c + 1) (lf / n) (decF sp (lf % n)) else -9) else refW n out fr k (c + 1) lf sp
theorem refW_b {n : Int} {out : Int → Bool} {fr : Int → Int → Int} (hf : ∀ g c, fr g c ≤ 6) : ∀ (k : Nat) (c lf : Int) (sp : Int → Int), refW n out fr k c lf sp = -9 ∨ (0 ≤ refW n out fr k c lf sp ∧ refW n out fr k c lf sp ≤ 6 * k) := by
  intro k
  induction k with
  | zero => intro c lf sp; exact Or.inr ⟨Int.le_refl 0, by simp [refW]⟩
  | succ k ih =>
    intro c lf sp
    have h1 := hf (lf % n) c
    have h2 := ih (c + 1) (lf / n) (decF sp (lf % n))
    have h3 := ih (c + 1) lf sp
    simp only [refW]
    by_cases e : out c = true
    · rw [if_pos e]
      by_cases e2 : (0 < sp (lf % n) ∧ 0 ≤ fr (lf % n) c) ∧ refW n out fr k (c + 1) (lf / n) (decF sp (lf % n)) ≠ -9
      · rw [if_pos e2]; omega
      · rw [if_neg e2]; omega
    · rw [if_neg e]; omega
def mnN (f : Nat → Int) : Nat → Int
  | 0 => -9
  | w + 1 => if 0 ≤ f w ∧ (mnN f w < 0 ∨ f w < mnN f w) then f w else mnN f w
theorem mnN_b {f : Nat → Int} {B : Int} (hB : 0 ≤ B) (hf : ∀ w, f w ≤ B) : ∀ N, -9 ≤ mnN f N ∧ mnN f N ≤ B := by
  intro N
  induction N with
  | zero => exact ⟨by simp [mnN], by simp only [mnN]; omega⟩
  | succ N ih =>
    have h := hf N
    simp only [mnN]
    split <;> omega
def Estp (cn s r : Int) : Int := if cn = 1 ∧ r ≠ -9 then s + r else -9
theorem farG_b (m : Nat) (kn : Int → Int) (d : Int) : ∀ (k : Nat) (s t : Int), 0 ≤ t → t + k ≤ 6 → -9 ≤ farG m kn d k s t ∧ farG m kn d k s t ≤ 6 ∧ (farG m kn d k s t = -9 ∨ 0 ≤ farG m kn d k s t) := by
  intro k
  induction k with
  | zero => intro s t h1 h2; exact ⟨by show (-9 : Int) ≤ -9; omega, by show (-9 : Int) ≤ 6; omega, Or.inl rfl⟩
  | succ k ih =>
    intro s t h1 h2
    have h3 := ih (ior s (orN kn s m)) (t + 1) (by omega) (by omega)
    simp only [farG]
    split <;> omega
theorem farR_b (m : Nat) (kn : Int → Int) (c d : Int) : -9 ≤ farR m kn c d ∧ farR m kn c d ≤ 6 ∧ (farR m kn c d = -9 ∨ 0 ≤ farR m kn c d) := farG_b m kn d 6 _ 0 (by omega) (by omega)
section
variable {P : jP} {w o : Nat} {a b c d g x y z n s i j k l : Int} {σ τ v : jS} {out : Int → Bool}
def stF (σ τ : jS) : Prop := ∀ q, q ≠ 57 → τ q = σ q
set_option maxHeartbeats 4000000 in
theorem l_X9_stepsB (hn : 0 < σ 36 2 ∧ σ 36 2 ≤ 6) (hout : ∀ c, 0 ≤ c → c < σ 36 2 → (out c = true ↔ 0 < σ 39 c ∧ σ 50 c = 0)) : ∀ (k i : Nat) (d lf s cn : Int) (τ : jS) (sp : Int → Int), i + k = (σ 36 2).toNat → d = i → 0 ≤ lf ∧ lf ≤ 46656 → -(9 * d) ≤ s ∧ s ≤ 6 * d → (cn = 0 ∨ cn = 1) → (cn = 1 → 0 ≤ s) → (∀ j, 0 ≤ j → j < σ 36 2 → sp j = σ 50 j - 1 - τ 57 j ∧ τ 57 j ≤ i) → stF σ τ → J P 2 (RX9, cX9_stepsBy, 8, some .int) 36 [some (vr P 36), some (vi x), some (vi lf), some (vi s), some (vi cn), some (vi d), none, none] [] τ (qi fun z σ' => Estp cn s (refW (σ 36 2) out (farR (σ 36 2).toNat (σ 43)) k d lf sp) = z ∧ stF σ σ') := by
  intro k
  induction k with
  | zero =>
    intro i d lf s cn τ sp hi hd hlf hs hcn hcs hsp hF
    have en : τ 36 2 = σ 36 2 := by rw [hF 36 (by omega)]
    refine J_iload 38 dX9_stepsBy_36 rfl rfl ?_
    refine J_aload_n (i := 0) 39 dX9_stepsBy_38 rfl rfl rfl ?_
    refine J_getI (jz := 2) (lo := 0) (hi := 6) 42 dX9_stepsBy_39 rfl fX9_104 rfl rfl rfl rfl (fun b1 b2 => ?_)
    refine J_icmp_ge 148 45 dX9_stepsBy_42 rfl rfl (fun c3 => ?_) (fun c3 => ?_)
    · refine J_iload 150 dX9_stepsBy_148 rfl rfl ?_
      refine J_if_eq 157 153 dX9_stepsBy_150 rfl rfl (fun c4 => ?_) (fun c4 => ?_)
      · refine J_bipush 159 dX9_stepsBy_157 rfl (by decide) ?_
        refine J_iret dX9_stepsBy_159 rfl ?_
        refine ⟨?_, hF⟩
        simp only [refW]
        unfold Estp
        first | (rw [if_pos (by omega)]; omega) | (rw [if_neg (by omega)]; done)
      · refine J_iload_n (i := 3) 154 dX9_stepsBy_153 rfl rfl rfl ?_
        refine J_goto 159 dX9_stepsBy_154 rfl ?_
        refine J_iret dX9_stepsBy_159 rfl ?_
        refine ⟨?_, hF⟩
        simp only [refW]
        unfold Estp
        first | (rw [if_pos (by omega)]; omega) | (rw [if_neg (by omega)]; done)
    · exfalso; omega
  | succ k ih =>
    intro i d lf s cn τ sp hi hd hlf hs hcn hcs hsp hF
    have en : τ 36 2 = σ 36 2 := by rw [hF 36 (by omega)]
    have e39 : τ 39 d = σ 39 d := by rw [hF 39 (by omega)]
    have e50 : ∀ j, τ 50 j = σ 50 j := fun j => by rw [hF 50 (by omega)]
    have e43 : τ 43 = σ 43 := hF 43 (by omega)
    have g1 := Int.emod_nonneg lf (show (σ 36 2) ≠ 0 by omega)
    have g2 := Int.emod_lt_of_pos lf (show 0 < σ 36 2 by omega)
    have q1 := Int.ediv_nonneg hlf.1 (show 0 ≤ σ 36 2 by omega)
    have q2 := Int.ediv_le_self (σ 36 2) hlf.1
    have hod := hout d (by omega) (by omega)
    have e50d := e50 d
    by_cases ho : out d = true
    · have ho2 := hod.mp ho
      have hfb := farR_b (σ 36 2).toNat (σ 43) (lf % σ 36 2) d
      have hsg := hsp (lf % σ 36 2) g1 g2
      have e50g := e50 (lf % σ 36 2)
      have hWb := refW_b (n := σ 36 2) (out := out) (fr := farR (σ 36 2).toNat (σ 43)) (fun g c => (farR_b _ _ _ _).2.1) k (d + 1) (lf / σ 36 2) (decF sp (lf % σ 36 2))
      have hW : refW (σ 36 2) out (farR (σ 36 2).toNat (σ 43)) (k + 1) d lf sp = if (0 < sp (lf % σ 36 2) ∧ 0 ≤ farR (σ 36 2).toNat (σ 43) (lf % σ 36 2) d) ∧ refW (σ 36 2) out (farR (σ 36 2).toNat (σ 43)) k (d + 1) (lf / σ 36 2) (decF sp (lf % σ 36 2)) ≠ -9 then farR (σ 36 2).toNat (σ 43) (lf % σ 36 2) d + refW (σ 36 2) out (farR (σ 36 2).toNat (σ 43)) k (d + 1) (lf / σ 36 2) (decF sp (lf % σ 36 2)) else -9 := by
        simp only [refW]
        rw [if_pos ho]
      rw [hW]
      have hnext : ∀ j, 0 ≤ j → j < σ 36 2 → decF sp (lf % σ 36 2) j = σ 50 j - 1 - jup τ 57 (lf % σ 36 2) (τ 57 (lf % σ 36 2) + 1) 57 j ∧ jup τ 57 (lf % σ 36 2) (τ 57 (lf % σ 36 2) + 1) 57 j ≤ ((i + 1 : Nat) : Int) := by
        intro j h1 h2
        unfold decF
        by_cases e : j = lf % σ 36 2
        · rw [if_pos e, e, jup_at]; omega
        · have := hsp j h1 h2
          rw [if_neg e, jup_ne2 e]; omega
      have hF2 : stF σ (jup τ 57 (lf % σ 36 2) (τ 57 (lf % σ 36 2) + 1)) := fun q hq => (jup_ne hq).trans (hF q hq)
      generalize hWg : refW (σ 36 2) out (farR (σ 36 2).toNat (σ 43)) k (d + 1) (lf / σ 36 2) (decF sp (lf % σ 36 2)) = W at hWb
      have hE1 : cn = 1 → 0 ≤ farR (σ 36 2).toNat (σ 43) (lf % σ 36 2) d → 0 < sp (lf % σ 36 2) → Estp cn s (if (0 < sp (lf % σ 36 2) ∧ 0 ≤ farR (σ 36 2).toNat (σ 43) (lf % σ 36 2) d) ∧ W ≠ -9 then farR (σ 36 2).toNat (σ 43) (lf % σ 36 2) d + W else -9) = Estp 1 (s + farR (σ 36 2).toNat (σ 43) (lf % σ 36 2) d) W := by
        intro h1 h2 h3
        unfold Estp
        by_cases e : W = -9
        · rw [if_neg (show ¬ ((0 < sp (lf % σ 36 2) ∧ 0 ≤ farR (σ 36 2).toNat (σ 43) (lf % σ 36 2) d) ∧ W ≠ -9) from fun h => h.2 e), if_neg (fun h => h.2 rfl), if_neg (fun h => h.2 e)]
        · rw [if_pos (show (0 < sp (lf % σ 36 2) ∧ 0 ≤ farR (σ 36 2).toNat (σ 43) (lf % σ 36 2) d) ∧ W ≠ -9 from ⟨⟨h3, h2⟩, e⟩), if_pos (show cn = 1 ∧ farR (σ 36 2).toNat (σ 43) (lf % σ 36 2) d + W ≠ -9 by omega), if_pos (show (1 : Int) = 1 ∧ W ≠ -9 from ⟨rfl, e⟩)]; omega
      have hE0 : ¬ (cn = 1 ∧ 0 ≤ farR (σ 36 2).toNat (σ 43) (lf % σ 36 2) d ∧ 0 < sp (lf % σ 36 2)) → Estp cn s (if (0 < sp (lf % σ 36 2) ∧ 0 ≤ farR (σ 36 2).toNat (σ 43) (lf % σ 36 2) d) ∧ W ≠ -9 then farR (σ 36 2).toNat (σ 43) (lf % σ 36 2) d + W else -9) = Estp 0 (s + farR (σ 36 2).toNat (σ 43) (lf % σ 36 2) d) W := by
        intro h1
        unfold Estp
        rw [if_neg (show ¬ ((0 : Int) = 1 ∧ W ≠ -9) by omega)]
        by_cases e : cn = 1
        · rw [if_neg (show ¬ ((0 < sp (lf % σ 36 2) ∧ 0 ≤ farR (σ 36 2).toNat (σ 43) (lf % σ 36 2) d) ∧ W ≠ -9) by omega), if_neg (by omega)]
        · rw [if_neg (by omega)]
      refine J.guard (fun Q0 hQ0 => ?_)
      refine J_iload 38 dX9_stepsBy_36 rfl rfl ?_
      refine J_aload_n (i := 0) 39 dX9_stepsBy_38 rfl rfl rfl ?_
      refine J_getI (jz := 2) (lo := 0) (hi := 6) 42 dX9_stepsBy_39 rfl fX9_104 rfl rfl rfl rfl (fun b1 b2 => ?_)
      refine J_icmp_ge 148 45 dX9_stepsBy_42 rfl rfl (fun c3 => ?_) (fun c3 => ?_)
      · subst hQ0
        exfalso; omega
      · refine J_iload_n (i := 2) 46 dX9_stepsBy_45 rfl rfl rfl ?_
        refine J_aload_n (i := 0) 47 dX9_stepsBy_46 rfl rfl rfl ?_
        refine J_getI (jz := 2) (lo := 0) (hi := 6) 50 dX9_stepsBy_47 rfl fX9_104 rfl rfl rfl rfl (fun b4 b5 => ?_)
        rw [en]
        refine J_irem 51 dX9_stepsBy_50 rfl ?_
        refine J_istore 53 dX9_stepsBy_51 rfl (by decide) ?_
        refine J_iload_n (i := 2) 54 dX9_stepsBy_53 rfl rfl rfl ?_
        refine J_aload_n (i := 0) 55 dX9_stepsBy_54 rfl rfl rfl ?_
        refine J_iload 57 dX9_stepsBy_55 rfl rfl ?_
        refine J_callVi 60 dX9_stepsBy_57 rfl kX9_177 mX9_goesWithout rfl rfl rfl (c_X9_goesWithout) (by first | decide | omega) rfl rfl (Nat.le_of_ble_eq_true rfl) (fun z7 s8 h6 => ?_)
        obtain ⟨rfl, rfl⟩ := h6
        refine J_bif_eq 70 63 dX9_stepsBy_60 rfl rfl (fun c9 => ?_) (fun c9 => ?_)
        · refine J_iconst 71 dX9_stepsBy_70 rfl ?_
          try rw [en]
          refine J_idiv 72 dX9_stepsBy_71 rfl ?_
          refine J_istore_n (i := 2) 73 dX9_stepsBy_72 rfl rfl (by decide) ?_
          refine J_aload_n (i := 0) 74 dX9_stepsBy_73 rfl rfl rfl ?_
          refine J_iload 76 dX9_stepsBy_74 rfl rfl ?_
          refine J_callVi 79 dX9_stepsBy_76 rfl kX9_177 mX9_goesWithout rfl rfl rfl (c_X9_goesWithout) (by first | decide | omega) rfl rfl (Nat.le_of_ble_eq_true rfl) (fun z11 s12 h10 => ?_)
          obtain ⟨rfl, rfl⟩ := h10
          refine J_bif_eq 142 82 dX9_stepsBy_79 rfl rfl (fun c13 => ?_) (fun c13 => ?_)
          · refine J_iinc 145 dX9_stepsBy_142 rfl (by decide) rfl ?_
            refine J_goto 36 dX9_stepsBy_145 rfl ?_
            subst hQ0
            first
              | (exfalso; omega)
              | (rw [hE1 (by omega) (by omega) (by omega), ← hWg]; exact J.wk (ih (i + 1) (d + 1) _ _ _ _ _ (by omega) (by omega) (by omega) (by omega) (by omega) (by omega) hnext hF2) ⟨rfl, rfl, rfl, rfl, rfl, rfl, trivial⟩)
              | (rw [hE0 (by omega), ← hWg]; exact J.wk (ih (i + 1) (d + 1) _ _ _ _ _ (by omega) (by omega) (by omega) (by omega) (by omega) (by omega) hnext hF2) ⟨rfl, rfl, rfl, rfl, rfl, rfl, trivial⟩)
          · refine J_aload_n (i := 0) 83 dX9_stepsBy_82 rfl rfl rfl ?_
            refine J_iload 85 dX9_stepsBy_83 rfl rfl ?_
            refine J_iload 87 dX9_stepsBy_85 rfl rfl ?_
            refine J_callVi 90 dX9_stepsBy_87 rfl kX9_249 mX9_farOf rfl rfl rfl (c_X9_farOf (by omega) (by omega)) (by first | decide | omega) rfl rfl (Nat.le_of_ble_eq_true rfl) (fun z15 s16 h14 => ?_)
            obtain ⟨rfl, rfl⟩ := h14
            rw [en, e43]
            refine J_istore 92 dX9_stepsBy_90 rfl (by decide) ?_
            refine J_aload_n (i := 0) 93 dX9_stepsBy_92 rfl rfl rfl ?_
            refine J_getR 96 dX9_stepsBy_93 rfl fX9_70 rfl rfl ?_
            refine J_iload 98 dX9_stepsBy_96 rfl rfl ?_
            refine J_dup2 99 dX9_stepsBy_98 rfl rfl rfl ?_
            refine J_iald (N := 6) (lo := 0) (hi := 6) 100 dX9_stepsBy_99 rfl rfl rfl rfl (fun b17 b18 => ?_)
            refine J_iconst 101 dX9_stepsBy_100 rfl ?_
            refine J_iadd 102 dX9_stepsBy_101 rfl ?_
            refine J_iast (N := 6) (lo := 0) (hi := 6) 103 dX9_stepsBy_102 rfl rfl rfl rfl ?_
            refine J_iload 105 dX9_stepsBy_103 rfl rfl ?_
            refine J_if_eq 134 108 dX9_stepsBy_105 rfl rfl (fun c19 => ?_) (fun c19 => ?_)
            · refine J_iconst 135 dX9_stepsBy_134 rfl ?_
              refine J_istore 137 dX9_stepsBy_135 rfl (by decide) ?_
              refine J_iload_n (i := 3) 138 dX9_stepsBy_137 rfl rfl rfl ?_
              refine J_iload 140 dX9_stepsBy_138 rfl rfl ?_
              refine J_iadd 141 dX9_stepsBy_140 rfl ?_
              refine J_istore_n (i := 3) 142 dX9_stepsBy_141 rfl rfl (by decide) ?_
              refine J_iinc 145 dX9_stepsBy_142 rfl (by decide) rfl ?_
              refine J_goto 36 dX9_stepsBy_145 rfl ?_
              subst hQ0
              first
                | (exfalso; omega)
                | (rw [hE1 (by omega) (by omega) (by omega), ← hWg]; exact J.wk (ih (i + 1) (d + 1) _ _ _ _ _ (by omega) (by omega) (by omega) (by omega) (by omega) (by omega) hnext hF2) ⟨rfl, rfl, rfl, rfl, rfl, rfl, trivial⟩)
                | (rw [hE0 (by omega), ← hWg]; exact J.wk (ih (i + 1) (d + 1) _ _ _ _ _ (by omega) (by omega) (by omega) (by omega) (by omega) (by omega) hnext hF2) ⟨rfl, rfl, rfl, rfl, rfl, rfl, trivial⟩)
            · refine J_iload 110 dX9_stepsBy_108 rfl rfl ?_
              refine J_if_lt 134 113 dX9_stepsBy_110 rfl rfl (fun c20 => ?_) (fun c20 => ?_)
              · refine J_iconst 135 dX9_stepsBy_134 rfl ?_
                refine J_istore 137 dX9_stepsBy_135 rfl (by decide) ?_
                refine J_iload_n (i := 3) 138 dX9_stepsBy_137 rfl rfl rfl ?_
                refine J_iload 140 dX9_stepsBy_138 rfl rfl ?_
                refine J_iadd 141 dX9_stepsBy_140 rfl ?_
                refine J_istore_n (i := 3) 142 dX9_stepsBy_141 rfl rfl (by decide) ?_
                refine J_iinc 145 dX9_stepsBy_142 rfl (by decide) rfl ?_
                refine J_goto 36 dX9_stepsBy_145 rfl ?_
                subst hQ0
                first
                  | (exfalso; omega)
                  | (rw [hE1 (by omega) (by omega) (by omega), ← hWg]; exact J.wk (ih (i + 1) (d + 1) _ _ _ _ _ (by omega) (by omega) (by omega) (by omega) (by omega) (by omega) hnext hF2) ⟨rfl, rfl, rfl, rfl, rfl, rfl, trivial⟩)
                  | (rw [hE0 (by omega), ← hWg]; exact J.wk (ih (i + 1) (d + 1) _ _ _ _ _ (by omega) (by omega) (by omega) (by omega) (by omega) (by omega) hnext hF2) ⟨rfl, rfl, rfl, rfl, rfl, rfl, trivial⟩)
              · refine J_aload_n (i := 0) 114 dX9_stepsBy_113 rfl rfl rfl ?_
                refine J_getR 117 dX9_stepsBy_114 rfl fX9_70 rfl rfl ?_
                refine J_iload 119 dX9_stepsBy_117 rfl rfl ?_
                refine J_iald (N := 6) (lo := 0) (hi := 6) 120 dX9_stepsBy_119 rfl rfl rfl rfl (fun b21 b22 => ?_)
                try simp +decide only [jup, ↓reduceIte] at b21 b22 ⊢
                refine J_aload_n (i := 0) 121 dX9_stepsBy_120 rfl rfl rfl ?_
                refine J_getR 124 dX9_stepsBy_121 rfl fX9_49 rfl rfl ?_
                refine J_iload 126 dX9_stepsBy_124 rfl rfl ?_
                refine J_iald (N := 6) (lo := 0) (hi := 9) 127 dX9_stepsBy_126 rfl rfl rfl rfl (fun b23 b24 => ?_)
                try simp +decide only [jup, ↓reduceIte] at b23 b24 ⊢
                refine J_icmp_ge 134 130 dX9_stepsBy_127 rfl rfl (fun c25 => ?_) (fun c25 => ?_)
                · refine J_iconst 135 dX9_stepsBy_134 rfl ?_
                  refine J_istore 137 dX9_stepsBy_135 rfl (by decide) ?_
                  refine J_iload_n (i := 3) 138 dX9_stepsBy_137 rfl rfl rfl ?_
                  refine J_iload 140 dX9_stepsBy_138 rfl rfl ?_
                  refine J_iadd 141 dX9_stepsBy_140 rfl ?_
                  refine J_istore_n (i := 3) 142 dX9_stepsBy_141 rfl rfl (by decide) ?_
                  refine J_iinc 145 dX9_stepsBy_142 rfl (by decide) rfl ?_
                  refine J_goto 36 dX9_stepsBy_145 rfl ?_
                  subst hQ0
                  first
                    | (exfalso; omega)
                    | (rw [hE1 (by omega) (by omega) (by omega), ← hWg]; exact J.wk (ih (i + 1) (d + 1) _ _ _ _ _ (by omega) (by omega) (by omega) (by omega) (by omega) (by omega) hnext hF2) ⟨rfl, rfl, rfl, rfl, rfl, rfl, trivial⟩)
                    | (rw [hE0 (by omega), ← hWg]; exact J.wk (ih (i + 1) (d + 1) _ _ _ _ _ (by omega) (by omega) (by omega) (by omega) (by omega) (by omega) hnext hF2) ⟨rfl, rfl, rfl, rfl, rfl, rfl, trivial⟩)
                · refine J_iconst 131 dX9_stepsBy_130 rfl ?_
                  refine J_goto 135 dX9_stepsBy_131 rfl ?_
                  refine J_istore 137 dX9_stepsBy_135 rfl (by decide) ?_
                  refine J_iload_n (i := 3) 138 dX9_stepsBy_137 rfl rfl rfl ?_
                  refine J_iload 140 dX9_stepsBy_138 rfl rfl ?_
                  refine J_iadd 141 dX9_stepsBy_140 rfl ?_
                  refine J_istore_n (i := 3) 142 dX9_stepsBy_141 rfl rfl (by decide) ?_
                  refine J_iinc 145 dX9_stepsBy_142 rfl (by decide) rfl ?_
                  refine J_goto 36 dX9_stepsBy_145 rfl ?_
                  subst hQ0
                  first
                    | (exfalso; omega)
                    | (rw [hE1 (by omega) (by omega) (by omega), ← hWg]; exact J.wk (ih (i + 1) (d + 1) _ _ _ _ _ (by omega) (by omega) (by omega) (by omega) (by omega) (by omega) hnext hF2) ⟨rfl, rfl, rfl, rfl, rfl, rfl, trivial⟩)
                    | (rw [hE0 (by omega), ← hWg]; exact J.wk (ih (i + 1) (d + 1) _ _ _ _ _ (by omega) (by omega) (by omega) (by omega) (by omega) (by omega) hnext hF2) ⟨rfl, rfl, rfl, rfl, rfl, rfl, trivial⟩)
        · refine J_aload_n (i := 0) 64 dX9_stepsBy_63 rfl rfl rfl ?_
          refine J_getI (jz := 2) (lo := 0) (hi := 6) 67 dX9_stepsBy_64 rfl fX9_104 rfl rfl rfl rfl (fun b26 b27 => ?_)
          refine J_goto 71 dX9_stepsBy_67 rfl ?_
          try rw [en]
          refine J_idiv 72 dX9_stepsBy_71 rfl ?_
          refine J_istore_n (i := 2) 73 dX9_stepsBy_72 rfl rfl (by decide) ?_
          refine J_aload_n (i := 0) 74 dX9_stepsBy_73 rfl rfl rfl ?_
          refine J_iload 76 dX9_stepsBy_74 rfl rfl ?_
          refine J_callVi 79 dX9_stepsBy_76 rfl kX9_177 mX9_goesWithout rfl rfl rfl (c_X9_goesWithout) (by first | decide | omega) rfl rfl (Nat.le_of_ble_eq_true rfl) (fun z29 s30 h28 => ?_)
          obtain ⟨rfl, rfl⟩ := h28
          refine J_bif_eq 142 82 dX9_stepsBy_79 rfl rfl (fun c31 => ?_) (fun c31 => ?_)
          · refine J_iinc 145 dX9_stepsBy_142 rfl (by decide) rfl ?_
            refine J_goto 36 dX9_stepsBy_145 rfl ?_
            subst hQ0
            first
              | (exfalso; omega)
              | (rw [hE1 (by omega) (by omega) (by omega), ← hWg]; exact J.wk (ih (i + 1) (d + 1) _ _ _ _ _ (by omega) (by omega) (by omega) (by omega) (by omega) (by omega) hnext hF2) ⟨rfl, rfl, rfl, rfl, rfl, rfl, trivial⟩)
              | (rw [hE0 (by omega), ← hWg]; exact J.wk (ih (i + 1) (d + 1) _ _ _ _ _ (by omega) (by omega) (by omega) (by omega) (by omega) (by omega) hnext hF2) ⟨rfl, rfl, rfl, rfl, rfl, rfl, trivial⟩)
          · refine J_aload_n (i := 0) 83 dX9_stepsBy_82 rfl rfl rfl ?_
            refine J_iload 85 dX9_stepsBy_83 rfl rfl ?_
            refine J_iload 87 dX9_stepsBy_85 rfl rfl ?_
            refine J_callVi 90 dX9_stepsBy_87 rfl kX9_249 mX9_farOf rfl rfl rfl (c_X9_farOf (by omega) (by omega)) (by first | decide | omega) rfl rfl (Nat.le_of_ble_eq_true rfl) (fun z33 s34 h32 => ?_)
            obtain ⟨rfl, rfl⟩ := h32
            rw [en, e43]
            refine J_istore 92 dX9_stepsBy_90 rfl (by decide) ?_
            refine J_aload_n (i := 0) 93 dX9_stepsBy_92 rfl rfl rfl ?_
            refine J_getR 96 dX9_stepsBy_93 rfl fX9_70 rfl rfl ?_
            refine J_iload 98 dX9_stepsBy_96 rfl rfl ?_
            refine J_dup2 99 dX9_stepsBy_98 rfl rfl rfl ?_
            refine J_iald (N := 6) (lo := 0) (hi := 6) 100 dX9_stepsBy_99 rfl rfl rfl rfl (fun b35 b36 => ?_)
            refine J_iconst 101 dX9_stepsBy_100 rfl ?_
            refine J_iadd 102 dX9_stepsBy_101 rfl ?_
            refine J_iast (N := 6) (lo := 0) (hi := 6) 103 dX9_stepsBy_102 rfl rfl rfl rfl ?_
            refine J_iload 105 dX9_stepsBy_103 rfl rfl ?_
            refine J_if_eq 134 108 dX9_stepsBy_105 rfl rfl (fun c37 => ?_) (fun c37 => ?_)
            · refine J_iconst 135 dX9_stepsBy_134 rfl ?_
              refine J_istore 137 dX9_stepsBy_135 rfl (by decide) ?_
              refine J_iload_n (i := 3) 138 dX9_stepsBy_137 rfl rfl rfl ?_
              refine J_iload 140 dX9_stepsBy_138 rfl rfl ?_
              refine J_iadd 141 dX9_stepsBy_140 rfl ?_
              refine J_istore_n (i := 3) 142 dX9_stepsBy_141 rfl rfl (by decide) ?_
              refine J_iinc 145 dX9_stepsBy_142 rfl (by decide) rfl ?_
              refine J_goto 36 dX9_stepsBy_145 rfl ?_
              subst hQ0
              first
                | (exfalso; omega)
                | (rw [hE1 (by omega) (by omega) (by omega), ← hWg]; exact J.wk (ih (i + 1) (d + 1) _ _ _ _ _ (by omega) (by omega) (by omega) (by omega) (by omega) (by omega) hnext hF2) ⟨rfl, rfl, rfl, rfl, rfl, rfl, trivial⟩)
                | (rw [hE0 (by omega), ← hWg]; exact J.wk (ih (i + 1) (d + 1) _ _ _ _ _ (by omega) (by omega) (by omega) (by omega) (by omega) (by omega) hnext hF2) ⟨rfl, rfl, rfl, rfl, rfl, rfl, trivial⟩)
            · refine J_iload 110 dX9_stepsBy_108 rfl rfl ?_
              refine J_if_lt 134 113 dX9_stepsBy_110 rfl rfl (fun c38 => ?_) (fun c38 => ?_)
              · refine J_iconst 135 dX9_stepsBy_134 rfl ?_
                refine J_istore 137 dX9_stepsBy_135 rfl (by decide) ?_
                refine J_iload_n (i := 3) 138 dX9_stepsBy_137 rfl rfl rfl ?_
                refine J_iload 140 dX9_stepsBy_138 rfl rfl ?_
                refine J_iadd 141 dX9_stepsBy_140 rfl ?_
                refine J_istore_n (i := 3) 142 dX9_stepsBy_141 rfl rfl (by decide) ?_
                refine J_iinc 145 dX9_stepsBy_142 rfl (by decide) rfl ?_
                refine J_goto 36 dX9_stepsBy_145 rfl ?_
                subst hQ0
                first
                  | (exfalso; omega)
                  | (rw [hE1 (by omega) (by omega) (by omega), ← hWg]; exact J.wk (ih (i + 1) (d + 1) _ _ _ _ _ (by omega) (by omega) (by omega) (by omega) (by omega) (by omega) hnext hF2) ⟨rfl, rfl, rfl, rfl, rfl, rfl, trivial⟩)
                  | (rw [hE0 (by omega), ← hWg]; exact J.wk (ih (i + 1) (d + 1) _ _ _ _ _ (by omega) (by omega) (by omega) (by omega) (by omega) (by omega) hnext hF2) ⟨rfl, rfl, rfl, rfl, rfl, rfl, trivial⟩)
              · refine J_aload_n (i := 0) 114 dX9_stepsBy_113 rfl rfl rfl ?_
                refine J_getR 117 dX9_stepsBy_114 rfl fX9_70 rfl rfl ?_
                refine J_iload 119 dX9_stepsBy_117 rfl rfl ?_
                refine J_iald (N := 6) (lo := 0) (hi := 6) 120 dX9_stepsBy_119 rfl rfl rfl rfl (fun b39 b40 => ?_)
                try simp +decide only [jup, ↓reduceIte] at b39 b40 ⊢
                refine J_aload_n (i := 0) 121 dX9_stepsBy_120 rfl rfl rfl ?_
                refine J_getR 124 dX9_stepsBy_121 rfl fX9_49 rfl rfl ?_
                refine J_iload 126 dX9_stepsBy_124 rfl rfl ?_
                refine J_iald (N := 6) (lo := 0) (hi := 9) 127 dX9_stepsBy_126 rfl rfl rfl rfl (fun b41 b42 => ?_)
                try simp +decide only [jup, ↓reduceIte] at b41 b42 ⊢
                refine J_icmp_ge 134 130 dX9_stepsBy_127 rfl rfl (fun c43 => ?_) (fun c43 => ?_)
                · refine J_iconst 135 dX9_stepsBy_134 rfl ?_
                  refine J_istore 137 dX9_stepsBy_135 rfl (by decide) ?_
                  refine J_iload_n (i := 3) 138 dX9_stepsBy_137 rfl rfl rfl ?_
                  refine J_iload 140 dX9_stepsBy_138 rfl rfl ?_
                  refine J_iadd 141 dX9_stepsBy_140 rfl ?_
                  refine J_istore_n (i := 3) 142 dX9_stepsBy_141 rfl rfl (by decide) ?_
                  refine J_iinc 145 dX9_stepsBy_142 rfl (by decide) rfl ?_
                  refine J_goto 36 dX9_stepsBy_145 rfl ?_
                  subst hQ0
                  first
                    | (exfalso; omega)
                    | (rw [hE1 (by omega) (by omega) (by omega), ← hWg]; exact J.wk (ih (i + 1) (d + 1) _ _ _ _ _ (by omega) (by omega) (by omega) (by omega) (by omega) (by omega) hnext hF2) ⟨rfl, rfl, rfl, rfl, rfl, rfl, trivial⟩)
                    | (rw [hE0 (by omega), ← hWg]; exact J.wk (ih (i + 1) (d + 1) _ _ _ _ _ (by omega) (by omega) (by omega) (by omega) (by omega) (by omega) hnext hF2) ⟨rfl, rfl, rfl, rfl, rfl, rfl, trivial⟩)
                · refine J_iconst 131 dX9_stepsBy_130 rfl ?_
                  refine J_goto 135 dX9_stepsBy_131 rfl ?_
                  refine J_istore 137 dX9_stepsBy_135 rfl (by decide) ?_
                  refine J_iload_n (i := 3) 138 dX9_stepsBy_137 rfl rfl rfl ?_
                  refine J_iload 140 dX9_stepsBy_138 rfl rfl ?_
                  refine J_iadd 141 dX9_stepsBy_140 rfl ?_
                  refine J_istore_n (i := 3) 142 dX9_stepsBy_141 rfl rfl (by decide) ?_
                  refine J_iinc 145 dX9_stepsBy_142 rfl (by decide) rfl ?_
                  refine J_goto 36 dX9_stepsBy_145 rfl ?_
                  subst hQ0
                  first
                    | (exfalso; omega)
                    | (rw [hE1 (by omega) (by omega) (by omega), ← hWg]; exact J.wk (ih (i + 1) (d + 1) _ _ _ _ _ (by omega) (by omega) (by omega) (by omega) (by omega) (by omega) hnext hF2) ⟨rfl, rfl, rfl, rfl, rfl, rfl, trivial⟩)
                    | (rw [hE0 (by omega), ← hWg]; exact J.wk (ih (i + 1) (d + 1) _ _ _ _ _ (by omega) (by omega) (by omega) (by omega) (by omega) (by omega) hnext hF2) ⟨rfl, rfl, rfl, rfl, rfl, rfl, trivial⟩)
    · have ho2 : ¬ (0 < σ 39 d ∧ σ 50 d = 0) := fun h => ho (hod.mpr h)
      have hW : refW (σ 36 2) out (farR (σ 36 2).toNat (σ 43)) (k + 1) d lf sp = refW (σ 36 2) out (farR (σ 36 2).toNat (σ 43)) k (d + 1) lf sp := by
        simp only [refW]
        rw [if_neg ho]
      rw [hW]
      refine J.guard (fun Q0 hQ0 => ?_)
      refine J_iload 38 dX9_stepsBy_36 rfl rfl ?_
      refine J_aload_n (i := 0) 39 dX9_stepsBy_38 rfl rfl rfl ?_
      refine J_getI (jz := 2) (lo := 0) (hi := 6) 42 dX9_stepsBy_39 rfl fX9_104 rfl rfl rfl rfl (fun b1 b2 => ?_)
      refine J_icmp_ge 148 45 dX9_stepsBy_42 rfl rfl (fun c3 => ?_) (fun c3 => ?_)
      · subst hQ0
        exfalso; omega
      · refine J_iload_n (i := 2) 46 dX9_stepsBy_45 rfl rfl rfl ?_
        refine J_aload_n (i := 0) 47 dX9_stepsBy_46 rfl rfl rfl ?_
        refine J_getI (jz := 2) (lo := 0) (hi := 6) 50 dX9_stepsBy_47 rfl fX9_104 rfl rfl rfl rfl (fun b4 b5 => ?_)
        rw [en]
        refine J_irem 51 dX9_stepsBy_50 rfl ?_
        refine J_istore 53 dX9_stepsBy_51 rfl (by decide) ?_
        refine J_iload_n (i := 2) 54 dX9_stepsBy_53 rfl rfl rfl ?_
        refine J_aload_n (i := 0) 55 dX9_stepsBy_54 rfl rfl rfl ?_
        refine J_iload 57 dX9_stepsBy_55 rfl rfl ?_
        refine J_callVi 60 dX9_stepsBy_57 rfl kX9_177 mX9_goesWithout rfl rfl rfl (c_X9_goesWithout) (by first | decide | omega) rfl rfl (Nat.le_of_ble_eq_true rfl) (fun z7 s8 h6 => ?_)
        obtain ⟨rfl, rfl⟩ := h6
        refine J_bif_eq 70 63 dX9_stepsBy_60 rfl rfl (fun c9 => ?_) (fun c9 => ?_)
        · refine J_iconst 71 dX9_stepsBy_70 rfl ?_
          refine J_idiv 72 dX9_stepsBy_71 rfl ?_
          rw [Int.ediv_one]
          refine J_istore_n (i := 2) 73 dX9_stepsBy_72 rfl rfl (by decide) ?_
          refine J_aload_n (i := 0) 74 dX9_stepsBy_73 rfl rfl rfl ?_
          refine J_iload 76 dX9_stepsBy_74 rfl rfl ?_
          refine J_callVi 79 dX9_stepsBy_76 rfl kX9_177 mX9_goesWithout rfl rfl rfl (c_X9_goesWithout) (by first | decide | omega) rfl rfl (Nat.le_of_ble_eq_true rfl) (fun z11 s12 h10 => ?_)
          obtain ⟨rfl, rfl⟩ := h10
          refine J_bif_eq 142 82 dX9_stepsBy_79 rfl rfl (fun c13 => ?_) (fun c13 => ?_)
          · refine J_iinc 145 dX9_stepsBy_142 rfl (by decide) rfl ?_
            refine J_goto 36 dX9_stepsBy_145 rfl ?_
            subst hQ0
            first
              | (exfalso; omega)
              | exact J.wk (ih (i + 1) (d + 1) _ _ _ _ _ (by omega) (by omega) (by omega) (by omega) (by omega) (by omega) (fun j h1 h2 => by have := hsp j h1 h2; omega) hF) ⟨rfl, rfl, rfl, rfl, rfl, rfl, trivial⟩
          · subst hQ0
            exfalso; omega
        · subst hQ0
          exfalso; omega
set_option maxHeartbeats 4000000 in
theorem l_X9_stepsA {sp : Int → Int} (hx : 0 ≤ x ∧ x ≤ 46656) (hn : 0 < σ 36 2 ∧ σ 36 2 ≤ 6) (hout : ∀ c, 0 ≤ c → c < σ 36 2 → (out c = true ↔ 0 < σ 39 c ∧ σ 50 c = 0)) (hsp : ∀ j, 0 ≤ j → j < σ 36 2 → sp j = σ 50 j - 1) : ∀ (k i : Nat) (d : Int) (τ : jS), i + k = (σ 36 2).toNat → d = i → (∀ j, 0 ≤ j → j < d → τ 57 j = 0) → stF σ τ → J P 2 (RX9, cX9_stepsBy, 8, some .int) 10 [some (vr P 36), some (vi x), some (vi x), some (vi 0), some (vi 1), some (vi d), none, none] [] τ (qi fun z σ' => refW (σ 36 2) out (farR (σ 36 2).toNat (σ 43)) (σ 36 2).toNat 0 x sp = z ∧ stF σ σ') := by
  intro k
  induction k with
  | zero =>
    intro i d τ hi hd h0 hF
    have en : τ 36 2 = σ 36 2 := by rw [hF 36 (by omega)]
    have hWb := refW_b (n := σ 36 2) (out := out) (fr := farR (σ 36 2).toNat (σ 43)) (fun g c => (farR_b _ _ _ _).2.1) (σ 36 2).toNat 0 x sp
    have hE : refW (σ 36 2) out (farR (σ 36 2).toNat (σ 43)) (σ 36 2).toNat 0 x sp = Estp 1 0 (refW (σ 36 2) out (farR (σ 36 2).toNat (σ 43)) (σ 36 2).toNat 0 x sp) := by
      unfold Estp
      by_cases e : refW (σ 36 2) out (farR (σ 36 2).toNat (σ 43)) (σ 36 2).toNat 0 x sp = -9
      · rw [if_neg (fun h => h.2 e), e]
      · rw [if_pos ⟨rfl, e⟩]; omega
    refine J_iload 12 dX9_stepsBy_10 rfl rfl ?_
    refine J_aload_n (i := 0) 13 dX9_stepsBy_12 rfl rfl rfl ?_
    refine J_getI (jz := 2) (lo := 0) (hi := 6) 16 dX9_stepsBy_13 rfl fX9_104 rfl rfl rfl rfl (fun b1 b2 => ?_)
    refine J_icmp_ge 33 19 dX9_stepsBy_16 rfl rfl (fun c3 => ?_) (fun c3 => ?_)
    · refine J_iconst 34 dX9_stepsBy_33 rfl ?_
      refine J_istore 36 dX9_stepsBy_34 rfl (by decide) ?_
      rw [hE]
      exact J.wk (l_X9_stepsB hn hout _ 0 0 _ _ _ _ sp (Nat.zero_add _) rfl (by omega) (by omega) (by omega) (by omega) (fun j a b => by have := h0 j a (by omega); have := hsp j a b; omega) hF) ⟨rfl, rfl, rfl, rfl, rfl, rfl, trivial⟩
    · exfalso; omega
  | succ k ih =>
    intro i d τ hi hd h0 hF
    have en : τ 36 2 = σ 36 2 := by rw [hF 36 (by omega)]
    refine J_iload 12 dX9_stepsBy_10 rfl rfl ?_
    refine J_aload_n (i := 0) 13 dX9_stepsBy_12 rfl rfl rfl ?_
    refine J_getI (jz := 2) (lo := 0) (hi := 6) 16 dX9_stepsBy_13 rfl fX9_104 rfl rfl rfl rfl (fun b1 b2 => ?_)
    refine J_icmp_ge 33 19 dX9_stepsBy_16 rfl rfl (fun c3 => ?_) (fun c3 => ?_)
    · exfalso; omega
    · refine J_aload_n (i := 0) 20 dX9_stepsBy_19 rfl rfl rfl ?_
      refine J_getR 23 dX9_stepsBy_20 rfl fX9_70 rfl rfl ?_
      refine J_iload 25 dX9_stepsBy_23 rfl rfl ?_
      refine J_iconst 26 dX9_stepsBy_25 rfl ?_
      refine J_iast (N := 6) (lo := 0) (hi := 6) 27 dX9_stepsBy_26 rfl rfl rfl rfl ?_
      refine J_iinc 30 dX9_stepsBy_27 rfl (by decide) rfl ?_
      refine J_goto 10 dX9_stepsBy_30 rfl ?_
      refine J.wk (ih (i + 1) (d + 1) _ (by omega) (by omega) (fun j a b => ?_) (fun q hq => (jup_ne hq).trans (hF q hq))) ⟨rfl, rfl, rfl, rfl, rfl, rfl, trivial⟩
      by_cases e : j = d
      · rw [e, jup_at]
      · rw [jup_ne2 e]; exact h0 j a (by omega)
theorem c_X9_stepsBy {sp : Int → Int} (hx : 0 ≤ x ∧ x ≤ 46656) (hn : 0 < σ 36 2 ∧ σ 36 2 ≤ 6) (hout : ∀ c, 0 ≤ c → c < σ 36 2 → (out c = true ↔ 0 < σ 39 c ∧ σ 50 c = 0)) (hsp : ∀ j, 0 ≤ j → j < σ 36 2 → sp j = σ 50 j - 1) : Ct P 2 yX9_stepsBy cX9_stepsBy 8 (some .int) [vr P 36, vi x] σ (qi fun z σ' => refW (σ 36 2) out (farR (σ 36 2).toNat (σ 43)) (σ 36 2).toNat 0 x sp = z ∧ stF σ σ') := by
  refine Ct.of _ rfl rfl rfl (Nat.le_of_ble_eq_true rfl) (fun hB => ?_)
  refine J_iload_n (i := 1) 1 dX9_stepsBy_0 rfl rfl rfl ?_
  refine J_istore_n (i := 2) 2 dX9_stepsBy_1 rfl rfl (by decide) ?_
  refine J_iconst 3 dX9_stepsBy_2 rfl ?_
  refine J_istore_n (i := 3) 4 dX9_stepsBy_3 rfl rfl (by decide) ?_
  refine J_iconst 5 dX9_stepsBy_4 rfl ?_
  refine J_istore 7 dX9_stepsBy_5 rfl (by decide) ?_
  refine J_iconst 8 dX9_stepsBy_7 rfl ?_
  refine J_istore 10 dX9_stepsBy_8 rfl (by decide) ?_
  refine J.wk (l_X9_stepsA hx hn hout hsp _ 0 0 _ (Nat.zero_add _) rfl (fun j a b => by omega) (fun _ _ => rfl)) ⟨rfl, rfl, rfl, rfl, rfl, rfl, trivial⟩
set_option maxHeartbeats 4000000 in
theorem l_X9_givenB {base : jS} {sp : Int → Int} {N : Nat} (hN : N ≤ 46656) (hn : 0 < base 36 2 ∧ base 36 2 ≤ 6) (hout : ∀ c, 0 ≤ c → c < base 36 2 → (out c = true ↔ 0 < base 39 c ∧ base 50 c = 0)) (hsp : ∀ j, 0 ≤ j → j < base 36 2 → sp j = base 50 j - 1) : ∀ (k i : Nat) (d r : Int) (τ : jS), i + k = N → d = i → r = mnN (fun w => refW (base 36 2) out (farR (base 36 2).toNat (base 43)) (base 36 2).toNat 0 w sp) i → stF base τ → J P 5 (RX9, cX9_given, 5, some .int) 46 [some (vr P 36), some (vi (N : Int)), some (vi r), some (vi d), none] [] τ (qi fun z σ' => mnN (fun w => refW (base 36 2) out (farR (base 36 2).toNat (base 43)) (base 36 2).toNat 0 w sp) N = z ∧ stF base σ') := by
  intro k
  induction k with
  | zero =>
    intro i d r τ hi hd hr hF
    rw [Nat.add_zero] at hi
    subst hi
    refine J_iload_n (i := 3) 47 dX9_given_46 rfl rfl rfl ?_
    refine J_iload_n (i := 1) 48 dX9_given_47 rfl rfl rfl ?_
    refine J_icmp_ge 86 51 dX9_given_48 rfl rfl (fun c1 => ?_) (fun c1 => ?_)
    · refine J_iload_n (i := 2) 87 dX9_given_86 rfl rfl rfl ?_
      refine J_iret dX9_given_87 rfl ?_
      exact ⟨hr.symm, hF⟩
    · exfalso; omega
  | succ k ih =>
    intro i d r τ hi hd hr hF
    have en : τ 36 2 = base 36 2 := by rw [hF 36 (by omega)]
    have e39 : τ 39 = base 39 := hF 39 (by omega)
    have e50 : τ 50 = base 50 := hF 50 (by omega)
    have e43 : τ 43 = base 43 := hF 43 (by omega)
    have hfb : ∀ w : Int, refW (base 36 2) out (farR (base 36 2).toNat (base 43)) (base 36 2).toNat 0 w sp ≤ 36 ∧ -9 ≤ refW (base 36 2) out (farR (base 36 2).toNat (base 43)) (base 36 2).toNat 0 w sp := fun w => by
      have := refW_b (n := base 36 2) (out := out) (fr := farR (base 36 2).toNat (base 43)) (fun g c => (farR_b _ _ _ _).2.1) (base 36 2).toNat 0 w sp
      omega
    have hmb := mnN_b (f := fun w : Nat => refW (base 36 2) out (farR (base 36 2).toNat (base 43)) (base 36 2).toNat 0 w sp) (B := 36) (by omega) (fun w => (hfb w).1) i
    rw [← hr] at hmb
    have hfi := hfb d
    subst hd
    have hst : mnN (fun w : Nat => refW (base 36 2) out (farR (base 36 2).toNat (base 43)) (base 36 2).toNat 0 w sp) (i + 1) = if 0 ≤ refW (base 36 2) out (farR (base 36 2).toNat (base 43)) (base 36 2).toNat 0 i sp ∧ (r < 0 ∨ refW (base 36 2) out (farR (base 36 2).toNat (base 43)) (base 36 2).toNat 0 i sp < r) then refW (base 36 2) out (farR (base 36 2).toNat (base 43)) (base 36 2).toNat 0 i sp else r := by
      simp only [mnN]
      rw [← hr]
    generalize hWg : refW (base 36 2) out (farR (base 36 2).toNat (base 43)) (base 36 2).toNat 0 (i : Int) sp = W at hfi hst
    refine J_iload_n (i := 3) 47 dX9_given_46 rfl rfl rfl ?_
    refine J_iload_n (i := 1) 48 dX9_given_47 rfl rfl rfl ?_
    refine J_icmp_ge 86 51 dX9_given_48 rfl rfl (fun c1 => ?_) (fun c1 => ?_)
    · exfalso; omega
    · refine J_aload_n (i := 0) 52 dX9_given_51 rfl rfl rfl ?_
      refine J_iload_n (i := 3) 53 dX9_given_52 rfl rfl rfl ?_
      refine J_callVi 56 dX9_given_53 rfl kX9_281 mX9_stepsBy rfl rfl rfl (c_X9_stepsBy (out := out) (sp := sp) (by omega) (by omega) (by rw [en, e39, e50]; exact hout) (by rw [en, e50]; exact hsp)) (by first | decide | omega) rfl rfl (Nat.le_of_ble_eq_true rfl) (fun z3 s4 h2 => ?_)
      obtain ⟨rfl, hF2⟩ := h2
      rw [en, e43, hWg]
      have hF3 : stF base s4 := fun q hq => (hF2 q hq).trans (hF q hq)
      refine J_istore 58 dX9_given_56 rfl (by decide) ?_
      refine J_iload 60 dX9_given_58 rfl rfl ?_
      refine J_if_lt 78 63 dX9_given_60 rfl rfl (fun c5 => ?_) (fun c5 => ?_)
      · refine J_iload_n (i := 2) 79 dX9_given_78 rfl rfl rfl ?_
        refine J_istore_n (i := 2) 80 dX9_given_79 rfl rfl (by decide) ?_
        refine J_iinc 83 dX9_given_80 rfl (by decide) rfl ?_
        refine J_goto 46 dX9_given_83 rfl ?_
        first
          | (exfalso; omega)
          | (refine J.wk (ih (i + 1) _ _ _ (by omega) (by omega) ?_ hF3) ⟨rfl, rfl, rfl, rfl, trivial⟩
             rw [hst]
             first | (rw [if_pos (by omega)]; done) | (rw [if_neg (by omega)]; done))
      · refine J_iload_n (i := 2) 64 dX9_given_63 rfl rfl rfl ?_
        refine J_if_lt 73 67 dX9_given_64 rfl rfl (fun c6 => ?_) (fun c6 => ?_)
        · refine J_iload 75 dX9_given_73 rfl rfl ?_
          refine J_goto 79 dX9_given_75 rfl ?_
          refine J_istore_n (i := 2) 80 dX9_given_79 rfl rfl (by decide) ?_
          refine J_iinc 83 dX9_given_80 rfl (by decide) rfl ?_
          refine J_goto 46 dX9_given_83 rfl ?_
          first
            | (exfalso; omega)
            | (refine J.wk (ih (i + 1) _ _ _ (by omega) (by omega) ?_ hF3) ⟨rfl, rfl, rfl, rfl, trivial⟩
               rw [hst]
               first | (rw [if_pos (by omega)]; done) | (rw [if_neg (by omega)]; done))
        · refine J_iload 69 dX9_given_67 rfl rfl ?_
          refine J_iload_n (i := 2) 70 dX9_given_69 rfl rfl rfl ?_
          refine J_icmp_ge 78 73 dX9_given_70 rfl rfl (fun c7 => ?_) (fun c7 => ?_)
          · refine J_iload_n (i := 2) 79 dX9_given_78 rfl rfl rfl ?_
            refine J_istore_n (i := 2) 80 dX9_given_79 rfl rfl (by decide) ?_
            refine J_iinc 83 dX9_given_80 rfl (by decide) rfl ?_
            refine J_goto 46 dX9_given_83 rfl ?_
            first
              | (exfalso; omega)
              | (refine J.wk (ih (i + 1) _ _ _ (by omega) (by omega) ?_ hF3) ⟨rfl, rfl, rfl, rfl, trivial⟩
                 rw [hst]
                 first | (rw [if_pos (by omega)]; done) | (rw [if_neg (by omega)]; done))
          · refine J_iload 75 dX9_given_73 rfl rfl ?_
            refine J_goto 79 dX9_given_75 rfl ?_
            refine J_istore_n (i := 2) 80 dX9_given_79 rfl rfl (by decide) ?_
            refine J_iinc 83 dX9_given_80 rfl (by decide) rfl ?_
            refine J_goto 46 dX9_given_83 rfl ?_
            first
              | (exfalso; omega)
              | (refine J.wk (ih (i + 1) _ _ _ (by omega) (by omega) ?_ hF3) ⟨rfl, rfl, rfl, rfl, trivial⟩
                 rw [hst]
                 first | (rw [if_pos (by omega)]; done) | (rw [if_neg (by omega)]; done))
theorem pow6 {n : Nat} (hn : n ≤ 6) {m : Nat} (hm : m ≤ 6) : n ^ m ≤ 46656 := by
  have key : ∀ a b : Fin 7, a.val ^ b.val ≤ 46656 := by decide
  exact key ⟨n, by omega⟩ ⟨m, by omega⟩
set_option maxHeartbeats 4000000 in
theorem l_X9_givenA {base : jS} {n : Nat} (hn : 0 < n ∧ n ≤ 6) (hbn : base 36 2 = n) {m : Nat} (hm : m ≤ 6) {Q : Option Value → jS → Prop} (hK : J P 5 (RX9, cX9_given, 5, some .int) 46 [some (vr P 36), some (vi ((n ^ m : Nat) : Int)), some (vi (-9)), some (vi 0), none] [] base Q) : ∀ (k i : Nat) (d r : Int), i + k = m → d = k → r = ((n ^ i : Nat) : Int) → J P 5 (RX9, cX9_given, 5, some .int) 24 [some (vr P 36), some (vi r), some (vi d), none, none] [] base Q := by
  intro k
  induction k with
  | zero =>
    intro i d r hi hd hr
    rw [Nat.add_zero] at hi
    subst hi
    subst hr
    refine J_iload_n (i := 2) 25 dX9_given_24 rfl rfl rfl ?_
    refine J_if_le 41 28 dX9_given_25 rfl rfl (fun c1 => ?_) (fun c1 => ?_)
    · refine J_bipush 43 dX9_given_41 rfl (by decide) ?_
      refine J_istore_n (i := 2) 44 dX9_given_43 rfl rfl (by decide) ?_
      refine J_iconst 45 dX9_given_44 rfl ?_
      refine J_istore_n (i := 3) 46 dX9_given_45 rfl rfl (by decide) ?_
      exact J.wk hK ⟨rfl, rfl, rfl, rfl, trivial⟩
    · exfalso; omega
  | succ k ih =>
    intro i d r hi hd hr
    refine J_iload_n (i := 2) 25 dX9_given_24 rfl rfl rfl ?_
    refine J_if_le 41 28 dX9_given_25 rfl rfl (fun c1 => ?_) (fun c1 => ?_)
    · exfalso; omega
    · refine J_iload_n (i := 1) 29 dX9_given_28 rfl rfl rfl ?_
      refine J_aload_n (i := 0) 30 dX9_given_29 rfl rfl rfl ?_
      refine J_getI (jz := 2) (lo := 0) (hi := 6) 33 dX9_given_30 rfl fX9_104 rfl rfl rfl rfl (fun b2 b3 => ?_)
      refine J_imul 34 dX9_given_33 rfl ?_
      refine J_istore_n (i := 1) 35 dX9_given_34 rfl rfl (by decide) ?_
      refine J_iinc 38 dX9_given_35 rfl (by decide) rfl ?_
      refine J_goto 24 dX9_given_38 rfl ?_
      refine ih (i + 1) _ _ (by omega) (by omega) ?_
      rw [hr, hbn, Nat.pow_succ, Int.natCast_mul]
def gvR (v : jS) (fr : Int → Int → Int) : Int := mnN (fun w => refW (v 0 1) (outM v) fr (nM v) 0 w (fun j => eatsM v j - 1)) (nM v ^ (popM (starvM v)).toNat)
set_option maxHeartbeats 4000000 in
theorem c_X9_given (hok : okG σ) : Ct P 5 yX9_given cX9_given 5 (some .int) [vr P 36] σ (qi fun z σ' => (if ¬ 0 < σ 36 2 then -3 else gvR (vR σ) (farR (σ 36 2).toNat (σ 43))) = z ∧ KR σ σ') := by
  refine Ct.bd (fun hB => ?_)
  have hn : 0 ≤ σ 36 2 ∧ σ 36 2 ≤ 6 := hB 36 2
  have hvB := vR_B hB
  have hsb := starvM_b hvB
  have hpb := popM_b hsb
  refine Ct.of _ rfl rfl rfl (Nat.le_of_ble_eq_true rfl) (fun hB => ?_)
  refine J_aload_n (i := 0) 1 dX9_given_0 rfl rfl rfl ?_
  refine J_getI (jz := 2) (lo := 0) (hi := 6) 4 dX9_given_1 rfl fX9_104 rfl rfl rfl rfl (fun b1 b2 => ?_)
  refine J_if_ne 10 7 dX9_given_4 rfl rfl (fun c3 => ?_) (fun c3 => ?_)
  · refine J_aload_n (i := 0) 11 dX9_given_10 rfl rfl rfl ?_
    refine J_callVv 14 dX9_given_11 rfl kX9_183 mX9_gives rfl rfl rfl (c_X9_gives hok) (by first | decide | omega) rfl rfl (Nat.le_of_ble_eq_true rfl) (fun s6 h4 => ?_)
    have hG := h4
    have en : s6 36 2 = σ 36 2 := by rw [hG.1 36 (by omega) (by omega) (by omega)]
    have e39 : s6 39 = σ 39 := hG.1 39 (by omega) (by omega) (by omega)
    have e43 : s6 43 = σ 43 := hG.1 43 (by omega) (by omega) (by omega)
    refine J_iconst 15 dX9_given_14 rfl ?_
    refine J_istore_n (i := 1) 16 dX9_given_15 rfl rfl (by decide) ?_
    refine J_aload_n (i := 0) 17 dX9_given_16 rfl rfl rfl ?_
    refine J_callVi 20 dX9_given_17 rfl kX9_192 mX9_whoGoWithout rfl rfl rfl (c_X9_whoGoWithout) (by first | decide | omega) rfl rfl (Nat.le_of_ble_eq_true rfl) (fun z8 s9 h7 => ?_)
    obtain ⟨rfl, rfl⟩ := h7
    rw [who_eq hB hG]
    refine J_callSi 23 dX9_given_20 rfl kX9_257 mX9_bits (c_X9_bits) (by first | decide | omega) rfl rfl (Nat.le_of_ble_eq_true rfl) (fun z11 s12 h10 => ?_)
    obtain ⟨rfl, rfl⟩ := h10
    refine J_istore_n (i := 2) 24 dX9_given_23 rfl rfl (by decide) ?_
    rw [if_neg (by omega)]
    have hbn : _ = ((nM (vR σ) : Nat) : Int) := en.trans (Int.toNat_of_nonneg hn.1).symm
    have hn2 : 0 < nM (vR σ) ∧ nM (vR σ) ≤ 6 := by have e : nM (vR σ) = (σ 36 2).toNat := rfl; omega
    refine J.wk (l_X9_givenA hn2 hbn (m := (popM (starvM (vR σ))).toNat) (by omega) ?_ _ 0 _ _ (Nat.zero_add _) (Int.toNat_of_nonneg hpb.1).symm rfl) ⟨rfl, rfl, rfl, trivial⟩
    refine J.post (l_X9_givenB (out := outM (vR σ)) (sp := fun j => eatsM (vR σ) j - 1) (pow6 hn2.2 (by omega)) (by omega) ?_ ?_ _ 0 _ _ _ (Nat.zero_add _) rfl rfl (fun _ _ => rfl)) (fun r σ1 hq => ?_)
    · intro c h1 h2
      rw [e39, (hG.2.1 c h1 (by omega)).1]
      unfold outM
      exact decide_eq_true_iff
    · intro j h1 h2
      rw [(hG.2.1 j h1 (by omega)).1]
    · obtain ⟨z, hz, h1, h2⟩ := hq
      refine ⟨z, hz, ?_, ?_⟩
      · rw [← h1, en, e43]
        rfl
      · have hk := KR_G3 hG.1
        exact ⟨fun q hq => (h2 q (by omega)).trans (hk.1 q hq), fun j hj => by rw [h2 36 (by omega)]; exact hk.2.1 j hj, fun j a b => by rw [h2 37 (by omega)]; exact hk.2.2.1 j a b, fun q a b j c d => by rw [h2 q (by omega)]; exact hk.2.2.2 q a b j c d⟩
  · refine J_bipush 9 dX9_given_7 rfl (by decide) ?_
    refine J_iret dX9_given_9 rfl ?_
    exact ⟨if_pos (by omega), KR_refl _⟩
end

