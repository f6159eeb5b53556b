/-! ===== the relation behind sheets, winters, days ===== -/
section
variable {σ σ1 σ2 τ : jS} {c x g y z1 z2 l n i j : Int} {w o : Nat}
theorem jset_ne {k q : Nat} {f : Int → Int} (h : q ≠ k) : jset σ k f q = σ q := by
  funext i
  unfold jset
  rw [if_neg h]
theorem jset_at {k : Nat} {f : Int → Int} : jset σ k f k = f := by
  funext i
  unfold jset
  rw [if_pos rfl]
theorem Rel_sheet (h : Rel σ) (hq : ∀ q, ((1 ≤ q ∧ q ≤ 26) ∨ (37 ≤ q ∧ q ≤ 60)) → τ q = σ q) (h9 : τ 0 9 = σ 0 9) (h36 : ∀ j, j ≠ 0 → τ 36 j = σ 36 j) (hf : τ 0 10 = τ 36 0) (hS : RelS τ) : Rel τ := by
  obtain ⟨⟨a1, a2⟩, b, c, d, e, g⟩ := h
  have e1 : vC τ 1 = vC σ 1 := vC1_of (fun q _ _ => hq q (by omega))
  have e2 : vR τ = vR σ := vR_congr (fun j _ => h36 (j + 1) (by omega)) (fun q _ => hq q (by omega))
  exact ⟨⟨by rw [e1, e2]; exact a1, by rw [e1]; exact a2⟩, RelK_of b (by rw [hq 1 (by omega)]) (hq 17 (by omega)) (hq 43 (by omega)), RelD_of c (by rw [hq 1 (by omega)]) (by rw [hq 24 (by omega)]) (hq 25 (by omega)) (hq 26 (by omega)) (h36 33 (by omega)) (hq 59 (by omega)) (hq 60 (by omega)), by rw [h9, h36 40 (by omega)]; exact d, hf, hS⟩
theorem RelS_upd (h : RelS σ) (hB : jBd σ) (ex : 0 ≤ x ∧ x < 4) (h1 : ∀ q, 28 ≤ q → q ≤ 35 → q ≠ sc x → q ≠ sc x + 1 → τ q = σ q) (h2 : ∀ k, k ≠ x → τ 61 k = σ 61 k) (h3 : ∀ k, k ≠ x → τ 62 k = σ 62 k) (h4 : ∀ i, ¬ (60 * x ≤ i ∧ i < 60 * x + 60) → τ 63 i = σ 63 i) (hx : shR τ x) : RelS τ := by
  intro k a b
  by_cases e : k = x
  · rw [e]; exact hx
  · have hs := sc_b ⟨a, b⟩
    have hne : sc k ≠ sc x ∧ sc k ≠ sc x + 1 ∧ sc k + 1 ≠ sc x ∧ sc k + 1 ≠ sc x + 1 := by unfold sc; omega
    exact shR_of (h k a b) (h1 _ (by omega) (by omega) hne.1 hne.2.1) (h1 _ (by omega) (by omega) hne.2.2.1 hne.2.2.2) (h2 k e) (h3 k e) (fun j p q => h4 _ (by omega)) (show σ 61 k ≤ 60 from (hB 61 k).2)
theorem fR_eq (h : shR σ x) : faultM (σ (sc x) 1) (σ (sc x) 2) l i n = fR σ x l i n := by
  unfold faultM fR
  rcases h with ⟨a1, a2⟩ | ⟨a1, a2, a3, a4, a5⟩
  · rw [if_pos a2, if_neg (by omega), if_pos (by omega)]
  · rw [if_neg (by omega), ← a2, ← a1]
    by_cases e : σ 62 x = l
    · rw [if_neg (show ¬ ¬ σ 62 x = l from fun q => q e), if_neg (show ¬ (0 ≤ σ 61 x ∧ ¬ σ 62 x = l) from fun q => q.2 e), if_neg (show ¬ σ 61 x < 0 by omega)]
      by_cases e2 : n < 0
      · rw [if_pos e2, if_pos e2]
      · rw [if_neg e2, if_neg e2]
        by_cases e3 : i < 0 ∨ σ 61 x < i + n
        · rw [if_pos e3, if_neg (by omega)]
        · rw [if_neg e3, if_pos (by omega)]
    · rw [if_pos e, if_pos ⟨a3, e⟩]
theorem fRc_eq (h : shR σ x) : faultM (σ (sc x) 1) (σ (sc x) 2) l i 1 = fRc σ x i l := by
  rw [fR_eq h]
  unfold fR fRc
  by_cases e1 : 0 ≤ σ 61 x ∧ ¬ σ 62 x = l
  · rw [if_pos e1, if_pos e1]
  · rw [if_neg e1, if_neg e1]
    by_cases e2 : σ 61 x < 0
    · rw [if_pos e2, if_pos e2]
    · rw [if_neg e2, if_neg e2, if_neg (by omega)]
      by_cases e3 : 0 ≤ i ∧ i < σ 61 x
      · rw [if_pos e3, if_neg (by omega)]
      · rw [if_neg e3, if_pos (by omega)]
theorem o_sheet (h : Rel σ) (hB : jBd σ) (hw : w = sc x) (h1 : aSheet x l n = z1 ∧ sSheet σ w x l n = σ1) (h2 : aSheet x l n = z2 ∧ rSheet σ1 x l n = σ2) : z1 = z2 ∧ Rel σ2 := by
  refine ⟨h1.1.symm.trans h2.1, ?_⟩
  have s1 := h1.2
  have s2 := h2.2
  unfold sSheet at s1
  unfold rSheet at s2
  by_cases e1 : 0 ≤ x ∧ x < 4
  · rw [if_neg (fun q => q e1)] at s1 s2
    by_cases e2 : (0 ≤ l ∧ l ≤ 2) ∧ n ≤ 60
    · rw [if_neg (fun q => q e2)] at s1 s2
      by_cases e3 : n < 0
      · rw [if_pos e3] at s1 s2; rw [← s2, ← s1]; exact Rel_ff h 4
      · rw [if_neg e3] at s1 s2
        have hsb := sc_b e1
        rw [← hw] at hsb
        have g63 : ∀ i, σ2 63 i = rngN (σ 63) (fun _ => 0) (60 * x) n i := by
          intro i
          rw [← s2, jup_ne (by omega), jset_at, ← s1, jset_ne (by omega), jup_ne (by omega), jup_ne (by omega), jup_ne (by omega)]
        have g61 : ∀ k, σ2 61 k = jup σ 61 x n 61 k := by
          intro k
          rw [← s2, jup_ne (by omega), jset_ne (by omega), jup_ne (by omega)]
          by_cases ek : k = x
          · rw [ek, jup_at, jup_at]
          · rw [jup_ne2 ek, jup_ne2 ek, ← s1, jset_ne (by omega), jup_ne (by omega), jup_ne (by omega), jup_ne (by omega)]
        have g62 : ∀ k, σ2 62 k = jup σ 62 x l 62 k := by
          intro k
          rw [← s2, jup_ne (by omega), jset_ne (by omega)]
          by_cases ek : k = x
          · rw [ek, jup_at, jup_at]
          · rw [jup_ne2 ek, jup_ne2 ek, jup_ne (by omega), ← s1, jset_ne (by omega), jup_ne (by omega), jup_ne (by omega), jup_ne (by omega)]
        have glo : ∀ q, q < 36 → σ2 q = σ1 q := fun q hq => by rw [← s2, jup_ne (by omega), jset_ne (by omega), jup_ne (by omega), jup_ne (by omega)]
        have gw : σ1 w 1 = l ∧ σ1 w 2 = n := by
          rw [← s1, jset_ne (by omega)]
          exact ⟨by rw [jup_ne2 (by omega), jup_at], jup_at _ _ _ _⟩
        have gw1 : ∀ j, σ1 (w + 1) j = 0 := fun j => by rw [← s1, jset_at]
        refine Rel_sheet h (fun q hq => ?_) ?_ (fun j hj => ?_) ?_ (RelS_upd (x := x) h.2.2.2.2.2 hB e1 (fun q a b c d => ?_) (fun k hk => ?_) (fun k hk => ?_) (fun i hi => ?_) (Or.inr ⟨?_, ?_, ?_, ?_, fun j a b => ?_⟩))
        · rw [← s2, jup_ne (by omega), jset_ne (by omega), jup_ne (by omega), jup_ne (by omega), ← s1, jset_ne (by omega), jup_ne (by omega), jup_ne (by omega), jup_ne (by omega)]
        · rw [glo 0 (by omega), ← s1, jset_ne (by omega), jup_ne (by omega), jup_ne (by omega), jup_ne2 (by omega)]
        · rw [← s2, jup_ne2 hj, jset_ne (by omega), jup_ne (by omega), jup_ne (by omega), ← s1, jset_ne (by omega), jup_ne (by omega), jup_ne (by omega), jup_ne (by omega)]
        · rw [glo 0 (by omega), ← s1, jset_ne (by omega), jup_ne (by omega), jup_ne (by omega), jup_at, ← s2, jup_at]
        · rw [glo q (by omega), ← s1, jset_ne (by omega), jup_ne (by omega), jup_ne (by omega), jup_ne (by omega)]
        · rw [g61, jup_ne2 hk]
        · rw [g62, jup_ne2 hk]
        · rw [g63]; unfold rngN; rw [if_neg (by omega)]
        · rw [g61, jup_at, ← hw, glo w (by omega), gw.2]
        · rw [g62, jup_at, ← hw, glo w (by omega), gw.1]
        · rw [g61, jup_at]; omega
        · rw [← hw, glo w (by omega), gw.1]; omega
        · rw [g61, jup_at] at b
          rw [← hw, glo (w + 1) (by omega), gw1, g63]
          unfold rngN
          rw [if_pos (by omega)]
    · rw [if_pos e2] at s1 s2; rw [← s2, ← s1]; exact Rel_ff h 0
  · rw [if_pos e1] at s1 s2; rw [← s2, ← s1]; exact Rel_ff h 0
theorem o_lose (h : Rel σ) (hB : jBd σ) (hw : w = sc x) (h1 : aLose x (σ w 1) = z1 ∧ (if ¬ (0 ≤ x ∧ x < 4) then σ else jup (jup σ w 1 (-1)) w 2 0) = σ1) (h2 : (if ¬ (0 ≤ x ∧ x ≤ 3) then -1 else if σ1 61 x < 0 then 0 else 1) = z2 ∧ (if ¬ (0 ≤ x ∧ x ≤ 3) then σ1 else jup σ1 61 x (-1)) = σ2) : z1 = z2 ∧ Rel σ2 := by
  obtain ⟨rfl, s1⟩ := h1
  obtain ⟨rfl, s2⟩ := h2
  unfold aLose
  by_cases e1 : 0 ≤ x ∧ x < 4
  · have hsb := sc_b e1
    rw [← hw] at hsb
    have e3 : 0 ≤ x ∧ x ≤ 3 := by omega
    rw [if_neg (fun q => q e1)] at s1
    rw [if_neg (fun q => q e3)] at s2
    have g61 : σ1 61 x = σ 61 x := by rw [← s1, jup_ne (by omega), jup_ne (by omega)]
    have hx := h.2.2.2.2.2 x e1.1 e1.2
    refine ⟨?_, ?_⟩
    · rw [if_neg (show ¬ ¬ (0 ≤ x ∧ x < 4) from fun q => q e1), if_neg (show ¬ ¬ (0 ≤ x ∧ x ≤ 3) from fun q => q e3), g61]
      unfold shR at hx
      rw [← hw] at hx
      rcases hx with ⟨a1, a2⟩ | ⟨a1, a2, a3, a4, a5⟩
      · rw [if_pos a2, if_pos (by omega)]
      · rw [if_neg (by omega), if_neg (by omega)]
    · have hq : ∀ q, q ≠ w → q ≠ 61 → σ2 q = σ q := fun q a b => by rw [← s2, jup_ne b, ← s1, jup_ne a, jup_ne a]
      refine Rel_sheet h (fun q hh => hq q (by omega) (by omega)) (by rw [hq 0 (by omega) (by omega)]) (fun j _ => by rw [hq 36 (by omega) (by omega)]) (by rw [hq 0 (by omega) (by omega), hq 36 (by omega) (by omega)]; exact h.2.2.2.2.1) (RelS_upd (x := x) h.2.2.2.2.2 hB e1 (fun q a b c d => hq q (by omega) (by omega)) (fun k hk => ?_) (fun k hk => by rw [hq 62 (by omega) (by omega)]) (fun i hi => by rw [hq 63 (by omega) (by omega)]) (Or.inl ⟨?_, ?_⟩))
      · rw [← s2, jup_ne2 hk, ← s1, jup_ne (by omega), jup_ne (by omega)]
      · rw [← s2, jup_at]
      · rw [← hw, ← s2, jup_ne (by omega), ← s1, jup_ne2 (by omega), jup_at]
  · have e3 : ¬ (0 ≤ x ∧ x ≤ 3) := by omega
    rw [if_pos e1] at s1
    rw [if_pos e3] at s2
    rw [if_pos e1, if_pos e3, ← s2, ← s1]
    exact ⟨rfl, h⟩
theorem o_put (h : Rel σ) (hB : jBd σ) (hw : w = sc x) (h1 : aPut x (σ w 1) (σ w 2) i = z1 ∧ sPut σ w x i y = σ1) (h2 : eRPut σ1 x i = z2 ∧ rPut σ1 x i y = σ2) : z1 = z2 ∧ Rel σ2 := by
  obtain ⟨rfl, s1⟩ := h1
  obtain ⟨rfl, s2⟩ := h2
  unfold sPut at s1
  unfold rPut at s2
  unfold aPut eRPut
  by_cases e1 : 0 ≤ x ∧ x < 4
  · have hsb := sc_b e1
    rw [← hw] at hsb
    have hx := h.2.2.2.2.2 x e1.1 e1.2
    have hx0 := hx
    rw [if_neg (fun q => q e1)] at s1 s2
    have ghi : ∀ q, q ≠ 0 → q ≠ w + 1 → σ1 q = σ q := by
      intro q a b
      rw [← s1]
      repeat' split
      · exact jup_ne a
      · exact jup_ne a
      · rw [jup_ne b, jup_ne a]
    rw [ghi 61 (by omega) (by omega), ghi 62 (by omega) (by omega)] at s2
    have g61 : σ1 61 x = σ 61 x := by rw [ghi 61 (by omega) (by omega)]
    have ne1 : ¬ ¬ (0 ≤ x ∧ x < 4) := fun q => q e1
    rw [if_neg ne1, if_neg ne1, g61]
    unfold shR at hx
    rw [← hw] at hx
    rcases hx with ⟨a1, a2⟩ | ⟨a1, a2, a3, a4, a5⟩
    · rw [if_pos a2] at s1
      rw [if_pos (by omega)] at s2
      rw [if_pos a2, if_pos (by omega), ← s2, ← s1]
      exact ⟨rfl, Rel_ff h 1⟩
    · have e0 : ¬ σ w 1 = -1 := by omega
      have e6 : ¬ σ 61 x < 0 := by omega
      rw [if_neg e0] at s1
      rw [if_neg e6] at s2
      rw [if_neg e0, if_neg e6]
      by_cases e3 : 0 ≤ i ∧ i < σ 61 x
      · have e4 : 0 ≤ i ∧ i ≤ σ w 2 ∧ 0 ≤ (1 : Int) ∧ 1 ≤ σ w 2 - i := by omega
        rw [if_neg (fun q => q e4)] at s1
        rw [if_neg (fun q => q e3)] at s2
        have ne3 : ¬ ¬ (0 ≤ i ∧ i < σ 61 x) := fun q => q e3
        have ne4 : ¬ ¬ (0 ≤ i ∧ i ≤ σ w 2 ∧ 0 ≤ (1 : Int) ∧ 1 ≤ σ w 2 - i) := fun q => q e4
        rw [if_neg ne3, if_neg ne4]
        refine ⟨rfl, ?_⟩
        have h61b : σ 61 x ≤ 60 := (hB 61 x).2
        have hq : ∀ q, q ≠ 0 → q ≠ 36 → q ≠ w + 1 → q ≠ 63 → σ2 q = σ q := fun q a b c d => by rw [← s2, jup_ne b, jup_ne d]; exact ghi q a c
        have g63 : ∀ q, σ2 63 q = jup σ 63 (60 * x + i) (cutM (σ w 1) y) 63 q := by
          intro q
          rw [← s2, jup_ne (by omega), a2]
          by_cases eq : q = 60 * x + i
          · rw [eq, jup_at, jup_at]
          · rw [jup_ne2 eq, jup_ne2 eq, ghi 63 (by omega) (by omega)]
        refine Rel_sheet h (fun q hh => hq q (by omega) (by omega) (by omega) (by omega)) ?_ (fun j hj => ?_) ?_ (RelS_upd (x := x) h.2.2.2.2.2 hB e1 (fun q a b c d => hq q (by omega) (by omega) (by omega) (by omega)) (fun k hk => by rw [hq 61 (by omega) (by omega) (by omega) (by omega)]) (fun k hk => by rw [hq 62 (by omega) (by omega) (by omega) (by omega)]) (fun q hi => ?_) (Or.inr ⟨?_, ?_, ?_, ?_, fun j a b => ?_⟩))
        · rw [← s2, jup_ne (by omega), jup_ne (by omega), ← s1, jup_ne (by omega), jup_ne2 (by omega)]
        · rw [← s2, jup_ne2 hj, jup_ne (by omega), ghi 36 (by omega) (by omega)]
        · rw [← s2, jup_ne (by omega), jup_ne (by omega), jup_at, ← s1, jup_ne (by omega), jup_at]
        · rw [g63, jup_ne2 (by omega)]
        · rw [← hw, hq 61 (by omega) (by omega) (by omega) (by omega), hq w (by omega) (by omega) (by omega) (by omega)]; exact a1
        · rw [← hw, hq 62 (by omega) (by omega) (by omega) (by omega), hq w (by omega) (by omega) (by omega) (by omega)]; exact a2
        · rw [hq 61 (by omega) (by omega) (by omega) (by omega)]; exact a3
        · rw [← hw, hq w (by omega) (by omega) (by omega) (by omega)]; exact a4
        · rw [hq 61 (by omega) (by omega) (by omega) (by omega)] at b
          rw [← hw, g63]
          have gw1 : σ2 (w + 1) j = jup σ (w + 1) i (cutM (σ w 1) y) (w + 1) j := by
            rw [← s2, jup_ne (by omega), jup_ne (by omega), ← s1]
            by_cases ej : j = i
            · rw [ej, jup_at, jup_at]
            · rw [jup_ne2 ej, jup_ne2 ej, jup_ne (by omega)]
          rw [gw1]
          by_cases ej : j = i
          · rw [ej, jup_at, jup_at]
          · rw [jup_ne2 ej, jup_ne2 (by omega)]
            exact a5 j a b
      · have e4 : ¬ (0 ≤ i ∧ i ≤ σ w 2 ∧ 0 ≤ (1 : Int) ∧ 1 ≤ σ w 2 - i) := by omega
        rw [if_pos e4] at s1
        rw [if_pos e3] at s2
        rw [if_pos e4, if_pos e3, ← s2, ← s1]
        exact ⟨rfl, Rel_ff h 3⟩
  · rw [if_pos e1] at s1 s2
    rw [if_pos e1, if_pos e1, ← s2, ← s1]
    exact ⟨rfl, Rel_ff h 0⟩
theorem o_cell (h : Rel σ) (hw : w = sc x) (h1 : aCell x l (faultM (σ w 1) (σ w 2) l i 1) (σ (w + 1) i) = z1 ∧ jup σ 0 10 (if ¬ ((0 ≤ x ∧ x < 4) ∧ 0 ≤ l ∧ l ≤ 2) then 0 else faultM (σ w 1) (σ w 2) l i 1) = σ1) (h2 : eRCell σ1 x i l = z2 ∧ rCell σ1 x i l = σ2) : z1 = z2 ∧ Rel σ2 := by
  obtain ⟨rfl, rfl⟩ := h1
  obtain ⟨rfl, rfl⟩ := h2
  unfold aCell eRCell rCell
  by_cases e : (0 ≤ x ∧ x < 4) ∧ 0 ≤ l ∧ l ≤ 2
  · have ne : ¬ ¬ ((0 ≤ x ∧ x < 4) ∧ 0 ≤ l ∧ l ≤ 2) := fun q => q e
    have hx := h.2.2.2.2.2 x e.1.1 e.1.2
    have hf := fRc_eq (l := l) (i := i) hx
    rw [← hw] at hf
    have hfj : ∀ f : Int, fRc (jup σ 0 10 f) x i l = fRc σ x i l := fun f => rfl
    have h63 : ∀ f : Int, jup σ 0 10 f 63 = σ 63 := fun f => jup_ne (by omega)
    rw [if_neg ne, if_neg ne, if_neg ne, if_neg ne, hfj, hf, h63]
    refine ⟨?_, Rel_ff h _⟩
    by_cases e0 : fRc σ x i l = 0
    · rw [if_pos e0, if_pos e0]
      unfold fRc at e0
      unfold shR at hx
      rw [← hw] at hx
      rcases hx with ⟨a1, a2⟩ | ⟨a1, a2, a3, a4, a5⟩
      · rw [if_neg (by omega), if_pos (by omega)] at e0; omega
      · by_cases e3 : 0 ≤ i ∧ i < σ 61 x
        · exact a5 i e3.1 e3.2
        · rw [if_neg (show ¬ σ 61 x < 0 by omega), if_neg e3] at e0
          split at e0 <;> omega
    · rw [if_neg e0, if_neg e0]
  · rw [if_pos e, if_pos e, if_pos e, if_pos e]
    exact ⟨rfl, Rel_ff h 0⟩
end
