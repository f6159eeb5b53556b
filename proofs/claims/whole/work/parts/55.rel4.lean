/-! ===== the relation behind copy, winter, day ===== -/
section
variable {σ σ1 σ2 τ : jS} {c x g y z1 z2 l n i j : Int} {w o : Nat}
theorem o_copy (h : Rel σ) (hB : jBd σ) (hw : w = sc x) (ho : o = sc y) (h1 : aCopy x y (σ w 1) (σ w 2) (σ o 1) (σ o 2) i j n = z1 ∧ sCopy σ w o x y i j n = σ1) (h2 : eRCopy σ1 x i y j n = z2 ∧ rCopy σ1 x i y j n = σ2) : z1 = z2 ∧ Rel σ2 := by
  obtain ⟨rfl, s1⟩ := h1
  obtain ⟨rfl, s2⟩ := h2
  unfold sCopy at s1
  unfold rCopy at s2
  unfold aCopy eRCopy
  by_cases e1 : (0 ≤ x ∧ x < 4) ∧ 0 ≤ y ∧ y < 4
  · have hsb := sc_b e1.1
    have hso := sc_b e1.2
    rw [← hw] at hsb
    rw [← ho] at hso
    have hx := h.2.2.2.2.2 x e1.1.1 e1.1.2
    have hy := h.2.2.2.2.2 y e1.2.1 e1.2.2
    have ne1 : ¬ ¬ ((0 ≤ x ∧ x < 4) ∧ 0 ≤ y ∧ y < 4) := fun q => q e1
    rw [if_neg ne1] at s1 s2
    have ghi : ∀ q, 36 ≤ q → σ1 q = σ q := by
      intro q hq
      rw [← s1]
      repeat' split
      · exact jup_ne (by omega)
      · exact jup_ne (by omega)
      · exact jup_ne (by omega)
      · rw [jset_ne (by omega), jup_ne (by omega)]
    rw [ghi 61 (by omega), ghi 62 (by omega), ghi 63 (by omega), ghi 64 (by omega)] at s2
    rw [if_neg ne1, if_neg ne1, ghi 61 (by omega), ghi 62 (by omega)]
    have hxs : σ w 1 = -1 ∧ σ 61 x < 0 ∨ ¬ σ w 1 = -1 ∧ 0 ≤ σ 61 x ∧ σ 61 x = σ w 2 ∧ σ 62 x = σ w 1 := by
      unfold shR at hx
      rw [← hw] at hx
      omega
    have hys : σ o 1 = -1 ∧ σ 61 y < 0 ∨ ¬ σ o 1 = -1 ∧ 0 ≤ σ 61 y ∧ σ 61 y = σ o 2 ∧ σ 62 y = σ o 1 := by
      unfold shR at hy
      rw [← ho] at hy
      omega
    by_cases e2 : ¬ σ w 1 = -1 ∧ ¬ σ o 1 = -1
    · have ne2 : ¬ ¬ (¬ σ w 1 = -1 ∧ ¬ σ o 1 = -1) := fun q => q e2
      have e2' : ¬ (σ 61 x < 0 ∨ σ 61 y < 0) := by omega
      rw [if_neg ne2] at s1
      rw [if_neg e2'] at s2
      rw [if_neg ne2, if_neg e2']
      by_cases e3 : σ w 1 = σ o 1
      · have ne3 : ¬ ¬ σ w 1 = σ o 1 := fun q => q e3
        have ne3' : ¬ ¬ σ 62 x = σ 62 y := fun q => q (by omega)
        rw [if_neg ne3] at s1
        rw [if_neg ne3'] at s2
        rw [if_neg ne3, if_neg ne3']
        by_cases e4 : (0 ≤ i ∧ i ≤ σ w 2 ∧ 0 ≤ n ∧ n ≤ σ w 2 - i) ∧ (0 ≤ j ∧ j ≤ σ o 2 ∧ 0 ≤ n ∧ n ≤ σ o 2 - j)
        · have ne4 : ¬ ¬ ((0 ≤ i ∧ i ≤ σ w 2 ∧ 0 ≤ n ∧ n ≤ σ w 2 - i) ∧ (0 ≤ j ∧ j ≤ σ o 2 ∧ 0 ≤ n ∧ n ≤ σ o 2 - j)) := fun q => q e4
          have e4' : ¬ ((i < 0 ∨ n < 0 ∨ σ 61 x < i + n) ∨ (j < 0 ∨ n < 0 ∨ σ 61 y < j + n)) := by omega
          rw [if_neg ne4] at s1
          rw [if_neg e4'] at s2
          rw [if_neg ne4, if_neg e4']
          refine ⟨rfl, ?_⟩
          have h61b : σ 61 y ≤ 60 := (hB 61 y).2
          have ax : ∀ q, 0 ≤ q → q < σ 61 x → σ (w + 1) q = σ 63 (60 * x + q) := by
            unfold shR at hx
            rw [← hw] at hx
            rcases hx with hx | hx
            · intro q; omega
            · exact hx.2.2.2.2
          have ay : ∀ q, 0 ≤ q → q < σ 61 y → σ (o + 1) q = σ 63 (60 * y + q) := by
            unfold shR at hy
            rw [← ho] at hy
            rcases hy with hy | hy
            · intro q; omega
            · exact hy.2.2.2.2
          have hq : ∀ q, q ≠ 0 → q ≠ 36 → q ≠ o + 1 → q ≠ 63 → q ≠ 64 → σ2 q = σ q := fun q a b c d e => by rw [← s2, jup_ne b, jset_ne d, jset_ne e, ← s1, jset_ne c, jup_ne a]
          have g63 : ∀ q, σ2 63 q = rngN (σ 63) (fun e => σ 63 (60 * x + i + e)) (60 * y + j) n q := fun q => by rw [← s2, jup_ne (by omega), jset_at]
          have go1 : ∀ q, σ2 (o + 1) q = jcpF (jup σ 0 10 0) (w + 1) i (o + 1) j n q := fun q => by rw [← s2, jup_ne (by omega), jset_ne (by omega), jset_ne (by omega), ← s1, jset_at]
          refine Rel_sheet h (fun q hh => hq q (by omega) (by omega) (by omega) (by omega) (by omega)) ?_ (fun q hj => ?_) ?_ (RelS_upd (x := y) h.2.2.2.2.2 hB e1.2 (fun q a b c d => hq q (by omega) (by omega) (by omega) (by omega) (by omega)) (fun k hk => by rw [hq 61 (by omega) (by omega) (by omega) (by omega) (by omega)]) (fun k hk => by rw [hq 62 (by omega) (by omega) (by omega) (by omega) (by omega)]) (fun q hi => ?_) (Or.inr ⟨?_, ?_, ?_, ?_, fun q a b => ?_⟩))
          · rw [← s2, jup_ne (by omega), jset_ne (by omega), jset_ne (by omega), ← s1, jset_ne (by omega), jup_ne2 (by omega)]
          · rw [← s2, jup_ne2 hj, jset_ne (by omega), jset_ne (by omega), ghi 36 (by omega)]
          · rw [← s2, jup_ne (by omega), jset_ne (by omega), jset_ne (by omega), jup_at, ← s1, jset_ne (by omega), jup_at]
          · rw [g63]; unfold rngN; rw [if_neg (by omega)]
          · rw [← ho, hq 61 (by omega) (by omega) (by omega) (by omega) (by omega), hq o (by omega) (by omega) (by omega) (by omega) (by omega)]; omega
          · rw [← ho, hq 62 (by omega) (by omega) (by omega) (by omega) (by omega), hq o (by omega) (by omega) (by omega) (by omega) (by omega)]; omega
          · rw [hq 61 (by omega) (by omega) (by omega) (by omega) (by omega)]; omega
          · rw [← ho, hq o (by omega) (by omega) (by omega) (by omega) (by omega)]
            have hob : -1 ≤ σ o 1 := (len_b hB (by rw [ho]; have := e1.2; unfold sc; omega)).1.1
            omega
          · rw [hq 61 (by omega) (by omega) (by omega) (by omega) (by omega)] at b
            rw [← ho, g63, go1]
            unfold jcpF rngN
            by_cases eq : j ≤ q ∧ q < j + n
            · rw [if_pos eq, if_pos (by omega), jup_ne (by omega), ax _ (by omega) (by omega)]
              congr 1
              omega
            · rw [if_neg eq, if_neg (by omega), jup_ne (by omega)]
              exact ay q a b
        · have e4' : (i < 0 ∨ n < 0 ∨ σ 61 x < i + n) ∨ (j < 0 ∨ n < 0 ∨ σ 61 y < j + n) := by omega
          rw [if_pos e4] at s1
          rw [if_pos e4'] at s2
          rw [if_pos e4, if_pos e4', ← s2, ← s1]
          exact ⟨rfl, Rel_ff h 3⟩
      · have e3' : ¬ σ 62 x = σ 62 y := by omega
        rw [if_pos e3] at s1
        rw [if_pos e3'] at s2
        rw [if_pos e3, if_pos e3', ← s2, ← s1]
        exact ⟨rfl, Rel_ff h 2⟩
    · have e2' : σ 61 x < 0 ∨ σ 61 y < 0 := by omega
      rw [if_pos e2] at s1
      rw [if_pos e2'] at s2
      rw [if_pos e2, if_pos e2', ← s2, ← s1]
      exact ⟨rfl, Rel_ff h 1⟩
  · rw [if_pos e1] at s1 s2
    rw [if_pos e1, if_pos e1, ← s2, ← s1]
    exact ⟨rfl, Rel_ff h 0⟩
/-- a fault set on both sides, the trial changed, and what the reference may leave -/
theorem Rel_chain {f : Int} (h : Rel σ) (f1 : F8 (jup σ 0 10 f) σ1) (f2 : KR (jup σ1 36 0 f) σ2) : Rel σ2 := by
  refine Rel_KR (Rel_F22 (Rel_ff h f) (fun q hq => ?_)) f2
  by_cases e : q = 36
  · subst e
    funext j
    by_cases ej : j = 0
    · rw [ej, jup_at, jup_at]
    · rw [jup_ne2 ej, jup_ne2 ej, f1 36 (by omega)]
  · rw [jup_ne e, jup_ne e, f1 q (by omega)]
theorem cells_eq (h : Rel σ) (hx : 0 ≤ x ∧ x < 4) (hf : fR σ x l i n = 0) : ∀ q, 0 ≤ q → q < n → σ (sc x + 1) (i + q) = σ 63 (60 * x + i + q) := by
  have hs := h.2.2.2.2.2 x hx.1 hx.2
  intro q a b
  unfold fR at hf
  unfold shR at hs
  rcases hs with ⟨a1, a2⟩ | ⟨a1, a2, a3, a4, a5⟩
  · rw [if_neg (by omega), if_pos (by omega)] at hf; omega
  · have hr : 0 ≤ i ∧ i + n ≤ σ 61 x := by
      rw [if_neg (show ¬ σ 61 x < 0 by omega)] at hf
      split at hf
      · omega
      · split at hf
        · omega
        · split at hf
          · omega
          · omega
    rw [a5 (i + q) (by omega) (by omega)]
    congr 1
    omega
theorem fR_b4 : -10 - fR σ x l i n = -10 - fR σ x l i n := rfl
theorem o_day (h : Rel σ) (hw : w = sc x) (h1 : aDay σ (vC σ 1) w x l i n y = z1 ∧ F8 (jup σ 0 10 (fDay σ (vC σ 1) w x l i n y)) σ1) (h2 : eRDay σ1 (vR σ1) x l i n y = z2 ∧ KR (jup σ1 36 0 (fRDay σ1 (vR σ1) x l i n y)) σ2) : z1 = z2 ∧ Rel σ2 := by
  obtain ⟨rfl, f1⟩ := h1
  obtain ⟨rfl, f2⟩ := h2
  have hhi : ∀ q, 36 ≤ q → σ1 q = σ q := fun q hq => (f1 q (by omega)).trans (jup_ne (by omega))
  have ev : vR σ1 = vR σ := vR_congr (fun _ _ => by rw [hhi 36 (by omega)]) (fun q hq => hhi q (by omega))
  have e63 : σ1 63 = σ 63 := hhi 63 (by omega)
  have hn : vC σ 1 0 1 = vR σ 0 1 := vE1 h.1.1
  have efR : ∀ (k l i n : Int), fR σ1 k l i n = fR σ k l i n := fun k l i n => by unfold fR; rw [hhi 61 (by omega), hhi 62 (by omega)]
  have hff : 0 ≤ x ∧ x < 4 → faultM (σ w 1) (σ w 2) l i (2 * n) = fR σ x l i (2 * n) := fun e => by rw [hw]; exact fR_eq (h.2.2.2.2.2 x e.1 e.2)
  have hfd : fDay σ (vC σ 1) w x l i n y = fRDay σ1 (vR σ1) x l i n y := by
    unfold fDay fRDay
    rw [ev, hn, efR]
    by_cases e : 0 ≤ x ∧ x < 4
    · rw [hff e]
    · rw [if_pos e, if_pos e]
  rw [hfd] at f1
  refine ⟨?_, Rel_chain h f1 f2⟩
  unfold aDay eRDay
  rw [ev, hn, efR, e63]
  by_cases e1 : 0 ≤ x ∧ x < 4
  · rw [hff e1]
    have ne1 : ¬ ¬ (0 ≤ x ∧ x < 4) := fun q => q e1
    rw [if_neg ne1, if_neg ne1]
    by_cases e2 : (0 ≤ l ∧ l ≤ 2) ∧ (0 ≤ n ∧ n ≤ 20) ∧ ((0 ≤ y ∧ y ≤ 4) ∨ (10 ≤ y ∧ y < 16))
    · have ne2 : ¬ ¬ ((0 ≤ l ∧ l ≤ 2) ∧ (0 ≤ n ∧ n ≤ 20) ∧ ((0 ≤ y ∧ y ≤ 4) ∨ (10 ≤ y ∧ y < 16))) := fun q => q e2
      rw [if_neg ne2, if_neg ne2]
      by_cases e3 : 0 < vR σ 0 1
      · have ne3 : ¬ ¬ 0 < vR σ 0 1 := fun q => q e3
        rw [if_neg ne3, if_neg ne3]
        by_cases e4 : fR σ x l i (2 * n) = 0
        · have ne4 : ¬ ¬ fR σ x l i (2 * n) = 0 := fun q => q e4
          rw [if_neg ne4, if_neg ne4]
          have hc := cells_eq h e1 e4
          rw [← hw] at hc
          obtain ⟨N, rfl⟩ : ∃ N : Nat, n = (N : Int) := ⟨n.toNat, by omega⟩
          rw [Int.toNat_natCast]
          have hc' : ∀ q : Int, 0 ≤ q → q < 2 * (N : Int) → σ (w + 1) (i + q) = σ 63 (60 * x + i + q) := hc
          have ht := told_c (f := σ (w + 1)) (f' := σ 63) (i := i) (i' := 60 * x + i) N hc'
          unfold dyE
          rw [ht]
          by_cases e5 : toldN (σ 63) (60 * x + i) N = true
          · have ne5 : ¬ ¬ toldN (σ 63) (60 * x + i) N = true := fun q => q e5
            rw [if_neg ne5, if_neg ne5]
            obtain ⟨d1, d2, d3⟩ := day_c (f := σ (w + 1)) (f' := σ 63) (i := i) (i' := 60 * x + i) h.1.1 h.1.2 N hc' (by rw [ht]; exact e5)
            rw [← d1, ask_c d2 d3]
          · rw [if_pos e5, if_pos e5]
        · rw [if_pos e4, if_pos e4]
      · rw [if_pos e3, if_pos e3]
    · rw [if_pos e2, if_pos e2]
  · rw [if_pos e1, if_pos e1]
theorem o_winter (h : Rel σ) (hB2 : jBd σ2) (hw : w = sc x) (h1 : aWinter σ w x l i n = z1 ∧ F8 (sWinter σ w x l i n) σ1) (h2 : eRWin σ1 (vC σ 8) x l i n = z2 ∧ sRWin σ1 (vC σ 8) x l i n σ2) : z1 = z2 ∧ Rel σ2 := by
  obtain ⟨rfl, f1⟩ := h1
  obtain ⟨rfl, f2⟩ := h2
  unfold aWinter eRWin
  unfold sWinter at f1
  unfold sRWin at f2
  by_cases e1 : 0 ≤ x ∧ x < 4
  · have ne1 : ¬ ¬ (0 ≤ x ∧ x < 4) := fun q => q e1
    have hff : faultM (σ w 1) (σ w 2) l i n = fR σ x l i n := by rw [hw]; exact fR_eq (h.2.2.2.2.2 x e1.1 e1.2)
    have hhi : ∀ q, 36 ≤ q → σ1 q = σ q := by
      intro q hq
      rw [f1 q (by omega)]
      repeat' split
      · exact jup_ne (by omega)
      · exact jup_ne (by omega)
      · exact jup_ne (by omega)
      · exact jup_ne (by omega)
      · rw [jup_ne (by omega), jset_ne (by omega)]
        funext j
        unfold setW
        rw [if_neg (by omega), jup_ne (by omega)]
    have efR : ∀ (k l i n : Int), fR σ1 k l i n = fR σ k l i n := fun k l i n => by unfold fR; rw [hhi 61 (by omega), hhi 62 (by omega)]
    rw [if_neg ne1] at f1 f2
    rw [if_neg ne1, if_neg ne1]
    rw [efR, hhi 63 (by omega)] at f2
    rw [hff] at f1
    rw [efR, hhi 63 (by omega), hff]
    by_cases e2 : 0 ≤ l ∧ l ≤ 2
    · have ne2 : ¬ ¬ (0 ≤ l ∧ l ≤ 2) := fun q => q e2
      rw [if_neg ne2] at f1 f2
      rw [if_neg ne2, if_neg ne2]
      by_cases e4 : fR σ x l i n = 0
      · have ne4 : ¬ ¬ fR σ x l i n = 0 := fun q => q e4
        rw [if_neg ne4] at f1 f2
        rw [if_neg ne4, if_neg ne4]
        have hc := cells_eq h e1 e4
        rw [← hw] at hc
        have hn0 : 0 ≤ n := by
          unfold fR at e4
          repeat' split at e4
          all_goals omega
        obtain ⟨N, rfl⟩ : ∃ N : Nat, n = (N : Int) := ⟨n.toNat, by omega⟩
        unfold pV at *
        rw [Int.toNat_natCast] at *
        have hrr := readR_c (f := σ (w + 1)) (f' := σ 63) (i := i) (i' := 60 * x + i) (beginV (vC σ 8)) N hc
        have hpp := pE_c (f := σ (w + 1)) (f' := σ 63) (i := i) (i' := 60 * x + i) (beginV (vC σ 8)) N hc
        rw [hrr, hpp] at f1
        rw [hrr, hpp]
        by_cases e5 : readR (σ 63) (60 * x + i) (beginV (vC σ 8)) N = -9
        · have ne5 : ¬ ¬ readR (σ 63) (60 * x + i) (beginV (vC σ 8)) N = -9 := fun q => q e5
          rw [if_neg ne5] at f1 f2
          rw [if_neg ne5]
          refine ⟨rfl, ?_⟩
          generalize (pE (σ 63) (60 * x + i) (beginV (vC σ 8)) N).2.2 = V at *
          obtain ⟨⟨w1, ⟨w21, w22, w23, w24, w25⟩, w3, w4, w5, w6, w7⟩, q0, q33, qg, qn, qg0, q2, q3⟩ := f2
          have lo : ∀ q, q < 8 → σ2 q = jup (jset (setW (jup σ 0 10 0) V) 17 (fun _ => 0)) 24 2 0 q := fun q hq => (w1 q (by omega)).trans (f1 q (by omega))
          have lo2 : ∀ q, 15 ≤ q → q < 36 → σ2 q = jup (jset (setW (jup σ 0 10 0) V) 17 (fun _ => 0)) 24 2 0 q := fun q hq hq2 => (w1 q (by omega)).trans (f1 q (by omega))
          have hrow : ∀ r : Nat, r ≤ 6 → ∀ q, σ2 (1 + r) q = V r q := by
            intro r hr q
            rw [lo (1 + r) (by omega), jup_ne (by omega), jset_ne (by omega)]
            unfold setW
            rw [if_pos (by omega), show 1 + r - 1 = r by omega]
          have hvc : ∀ (r : Nat) q, r ≤ 6 → vC σ2 1 r q = V r q := fun r q hr => by unfold vC; rw [if_pos hr]; exact hrow r hr q
          have hsame : ∀ q, (25 ≤ q ∧ q < 36) → σ2 q = σ q := by
            intro q hq
            rw [lo2 q (by omega) (by omega), jup_ne (by omega), jset_ne (by omega)]
            funext j
            unfold setW
            rw [if_neg (by omega), jup_ne (by omega)]
          refine ⟨⟨⟨fun q a b => ?_, fun q a b => ?_, fun r a b q c d => ?_⟩, fun q a b => ?_⟩, fun q a b => ?_, ⟨?_, fun q a b => ?_⟩, ?_, ?_, RelS_of h.2.2.2.2.2 (fun q a b => hsame q (by omega)) ((w1 61 (by omega)).trans (hhi 61 (by omega))) ((w1 62 (by omega)).trans (hhi 62 (by omega))) ((w1 63 (by omega)).trans (hhi 63 (by omega)))⟩
          · rw [hvc 0 q (by omega)]
            show V 0 q = if (0 : Int) ≤ q ∧ q ≤ 3 then σ2 36 (q + 1) else 0
            rw [if_pos ⟨a, b⟩]
            rcases (show q = 0 ∨ q = 1 ∨ q = 2 ∨ q = 3 by omega) with rfl | rfl | rfl | rfl
            · exact w21.symm
            · exact w22.symm
            · exact q2.trans w23.symm
            · exact q3.trans w24.symm
          · rw [hvc 0 0 (by omega)] at b
            rw [hvc 1 q (by omega)]
            exact (w3 q a b).symm
          · rw [hvc 0 1 (by omega)] at d
            rw [hvc r q b]
            unfold vR
            rw [if_neg (by omega), if_pos b]
            exact (w4 r a b q c d).symm
          · rw [hvc 0 1 (by omega)] at b
            rw [hvc 5 q (by omega), hvc 0 0 (by omega)]
            have hb6 : 0 ≤ σ2 6 q ∧ σ2 6 q ≤ 2 := hB2 6 q
            have h6 := hrow 5 (by omega) q
            exact ⟨by rw [← h6]; exact hb6.1, qg q a b⟩
          · have b' : q < V 0 1 := by rw [← hrow 0 (by omega) 1]; exact b
            have e17 : σ2 17 q = 0 := by rw [lo2 17 (by omega) (by omega), jup_ne (by omega), jset_at]
            rw [e17, w5 q a b']
            exact ⟨rfl, Nat.two_pow_pos _⟩
          · rw [lo2 24 (by omega) (by omega), jup_at, q33]
          · rw [lo2 24 (by omega) (by omega), jup_at] at b
            omega
          · rw [lo 0 (by omega), jup_ne (by omega), jset_ne (by omega), w25, hhi 36 (by omega)]
            unfold setW
            rw [if_neg (by omega), jup_ne2 (by omega)]
            exact h.2.2.2.1
          · rw [lo 0 (by omega), jup_ne (by omega), jset_ne (by omega), q0]
            unfold setW
            rw [if_neg (by omega), jup_at]
        · rw [if_pos e5] at f1 f2
          rw [if_pos e5]
          exact ⟨rfl, Rel_chain h f1 f2⟩
      · rw [if_pos e4] at f1 f2
        rw [if_pos e4, if_pos e4]
        exact ⟨rfl, Rel_chain h f1 f2⟩
    · rw [if_pos e2] at f1 f2
      rw [if_pos e2, if_pos e2]
      exact ⟨rfl, Rel_chain h f1 f2⟩
  · rw [if_pos e1] at f1 f2
    rw [if_pos e1, if_pos e1]
    exact ⟨rfl, Rel_chain h f1 f2⟩
end
