/-! ===== the relation behind what changes something ===== -/
section
variable {σ σ1 σ2 τ : jS} {c x g y z1 z2 : Int}
theorem vR_lo {k : Nat} {j z : Int} (h : k < 36) : vR (jup σ k j z) = vR σ := vR_congr (fun _ _ => by rw [jup_ne (by omega)]) (fun q hq => jup_ne (by omega))
theorem vC_hi {k : Nat} {j z : Int} (h : 8 ≤ k) : vC (jup σ k j z) 1 = vC σ 1 := vC_up_ne _ _ _ _ _ (by omega)
theorem Rel_view (h : Rel σ) (e11 : τ 1 1 = σ 1 1) (hq : ∀ q, (q = 0 ∨ q = 17 ∨ (24 ≤ q ∧ q ≤ 35) ∨ q = 43 ∨ (59 ≤ q ∧ q ≤ 63)) → τ q = σ q) (h36 : ∀ j, (j = 0 ∨ j = 33 ∨ j = 40) → τ 36 j = σ 36 j) (hv : RelV τ) : Rel τ := by
  obtain ⟨_, b, c, d, e, g⟩ := h
  exact ⟨hv, RelK_of b e11 (hq 17 (by omega)) (hq 43 (by omega)), RelD_of c e11 (by rw [hq 24 (by omega)]) (hq 25 (by omega)) (hq 26 (by omega)) (h36 33 (by omega)) (hq 59 (by omega)) (hq 60 (by omega)), by rw [hq 0 (by omega), h36 40 (by omega)]; exact d, by rw [hq 0 (by omega), h36 0 (by omega)]; exact e, RelS_of g (fun q _ _ => hq q (by omega)) (hq 61 (by omega)) (hq 62 (by omega)) (hq 63 (by omega))⟩
theorem aDig_c {n n' old old' : Int} (hn : n = n') (ho : 0 ≤ c ∧ c < n → 0 ≤ x ∧ x ≤ 9 → old = old') : aDig n c x old = aDig n' c x old' := by
  unfold aDig
  rw [← hn]
  by_cases e : 0 ≤ c ∧ c < n
  · have ne : ¬ ¬ (0 ≤ c ∧ c < n) := fun q => q e
    rw [if_neg ne, if_neg ne]
    by_cases e2 : 0 ≤ x ∧ x ≤ 9
    · have ne2 : ¬ ¬ (0 ≤ x ∧ x ≤ 9) := fun q => q e2
      rw [if_neg ne2, if_neg ne2]; exact ho e e2
    · rw [if_pos e2, if_pos e2]
  · rw [if_pos e, if_pos e]
/-- one value of the view changed on both sides -/
theorem Rel_both (h : Rel σ) {r : Nat} {j z : Int} (hr : 1 ≤ r ∧ r ≤ 6) (h5 : r = 5 → 0 ≤ z ∧ z < σ 1 0) : Rel (jup (jup σ (1 + r) j z) (36 + r) j z) := by
  refine Rel_view h ?_ (fun q hq => ?_) (fun j _ => ?_) ⟨?_, ?_⟩
  · rw [jup_ne (by omega), jup_ne (by omega)]
  · rw [jup_ne (by omega), jup_ne (by omega)]
  · rw [jup_ne (by omega), jup_ne (by omega)]
  · rw [vC_hi (by omega), vC_up _ _ _ _ _ hr.2, vR_up _ _ _ _ hr, vR_lo (by omega)]
    exact vEq_up h.1.1 z (Or.inr hr)
  · rw [vC_hi (by omega), vC_up _ _ _ _ _ hr.2]
    exact okV_up h.1.2 z (Or.inr hr) h5
theorem Rel_both0 (h : Rel σ) {j z : Int} (hj : j = 2 ∨ j = 3) : Rel (jup (jup σ 1 j z) 36 (j + 1) z) := by
  refine Rel_view h ?_ (fun q hq => ?_) (fun i hi => ?_) ⟨?_, ?_⟩
  · rw [jup_ne (by omega), jup_ne2 (by omega)]
  · rw [jup_ne (by omega), jup_ne (by omega)]
  · rw [jup_ne2 (by omega), jup_ne (by omega)]
  · rw [vC_hi (by omega), vR_up0 _ _ _ (by omega), vR_lo (by omega), show (1 : Nat) = 1 + 0 from rfl, vC_up _ _ _ _ _ (by omega)]
    exact vEq_up h.1.1 z (Or.inl ⟨rfl, hj⟩)
  · rw [vC_hi (by omega), show (1 : Nat) = 1 + 0 from rfl, vC_up _ _ _ _ _ (by omega)]
    exact okV_up h.1.2 z (Or.inl ⟨rfl, hj⟩) (by omega)
theorem o_show (h : Rel σ) (h1 : aDig (σ 1 1) c x (σ 5 c) = z1 ∧ (if (0 ≤ c ∧ c < σ 1 1) ∧ 0 ≤ x ∧ x ≤ 9 then jup σ 5 c x else σ) = σ1) (h2 : aDig (σ1 36 2) c x (σ1 40 c) = z2 ∧ (if (0 ≤ c ∧ c < σ1 36 2) ∧ 0 ≤ x ∧ x ≤ 9 then jup σ1 40 c x else σ1) = σ2) : z1 = z2 ∧ Rel σ2 := by
  obtain ⟨rfl, h1⟩ := h1
  obtain ⟨rfl, h2⟩ := h2
  have hn := Rel_n h.1
  have ho : 0 ≤ c ∧ c < σ 1 1 → σ 5 c = σ 40 c := fun q => row_c h.1.1 q 4
  by_cases e : (0 ≤ c ∧ c < σ 1 1) ∧ 0 ≤ x ∧ x ≤ 9
  · rw [if_pos e] at h1
    subst h1
    have en : jup σ 5 c x 36 2 = σ 36 2 := by rw [jup_ne (by omega)]
    rw [en, ← hn, if_pos e] at h2
    subst h2
    refine ⟨aDig_c (hn.trans en.symm) (fun q _ => by rw [jup_ne (by omega)]; exact ho q), Rel_both (r := 4) h (by omega) (by omega)⟩
  · rw [if_neg e] at h1
    subst h1
    rw [← hn, if_neg e] at h2
    subst h2
    exact ⟨aDig_c hn (fun q _ => ho q), h⟩
theorem o_bake (h : Rel σ) (h1 : aDig (σ 1 0) c x (σ 2 c) = z1 ∧ (if (0 ≤ c ∧ c < σ 1 0) ∧ 0 ≤ x ∧ x ≤ 9 then jup σ 2 c x else σ) = σ1) (h2 : aDig (σ1 36 1) c x (σ1 37 c) = z2 ∧ (if (0 ≤ c ∧ c < σ1 36 1) ∧ 0 ≤ x ∧ x ≤ 9 then jup σ1 37 c x else σ1) = σ2) : z1 = z2 ∧ Rel σ2 := by
  obtain ⟨rfl, h1⟩ := h1
  obtain ⟨rfl, h2⟩ := h2
  have hn := Rel_g h.1
  have ho : 0 ≤ c ∧ c < σ 1 0 → σ 2 c = σ 37 c := fun q => h.1.1.2.1 c q.1 q.2
  by_cases e : (0 ≤ c ∧ c < σ 1 0) ∧ 0 ≤ x ∧ x ≤ 9
  · rw [if_pos e] at h1
    subst h1
    have en : jup σ 2 c x 36 1 = σ 36 1 := by rw [jup_ne (by omega)]
    rw [en, ← hn, if_pos e] at h2
    subst h2
    refine ⟨aDig_c (hn.trans en.symm) (fun q _ => by rw [jup_ne (by omega)]; exact ho q), Rel_both (r := 1) h (by omega) (by omega)⟩
  · rw [if_neg e] at h1
    subst h1
    rw [← hn, if_neg e] at h2
    subst h2
    exact ⟨aDig_c hn (fun q _ => ho q), h⟩
theorem o_lead (h : Rel σ) (h1 : (if ¬ ((0 ≤ c ∧ c < σ 1 1) ∧ 0 ≤ x ∧ x < σ 1 0) then -1 else σ 6 c) = z1 ∧ (if (0 ≤ c ∧ c < σ 1 1) ∧ 0 ≤ x ∧ x < σ 1 0 then jup σ 6 c x else σ) = σ1) (h2 : (if ¬ ((0 ≤ c ∧ c < σ1 36 2) ∧ 0 ≤ x ∧ x < σ1 36 1) then -1 else σ1 41 c) = z2 ∧ (if (0 ≤ c ∧ c < σ1 36 2) ∧ 0 ≤ x ∧ x < σ1 36 1 then jup σ1 41 c x else σ1) = σ2) : z1 = z2 ∧ Rel σ2 := by
  obtain ⟨rfl, h1⟩ := h1
  obtain ⟨rfl, h2⟩ := h2
  have hn := Rel_n h.1
  have hg := Rel_g h.1
  by_cases e : (0 ≤ c ∧ c < σ 1 1) ∧ 0 ≤ x ∧ x < σ 1 0
  · rw [if_pos e] at h1
    subst h1
    have en : jup σ 6 c x 36 2 = σ 36 2 := by rw [jup_ne (by omega)]
    have eg : jup σ 6 c x 36 1 = σ 36 1 := by rw [jup_ne (by omega)]
    rw [en, eg, ← hn, ← hg, if_pos e] at h2
    subst h2
    refine ⟨?_, Rel_both (r := 5) h (by omega) (fun _ => e.2)⟩
    rw [en, eg, ← hn, ← hg, if_neg (fun q => q e), if_neg (fun q => q e), jup_ne (by omega)]
    exact row_c h.1.1 e.1 5
  · rw [if_neg e] at h1
    subst h1
    rw [← hn, ← hg, if_neg e] at h2
    subst h2
    rw [← hn, ← hg, if_pos e, if_pos e]
    exact ⟨rfl, h⟩
theorem o_manner (h : Rel σ) (h1 : (if ¬ (0 ≤ x ∧ x ≤ 2) then -2 else if ¬ 0 < σ 1 1 then -3 else σ 1 2) = z1 ∧ (if (0 ≤ x ∧ x ≤ 2) ∧ 0 < σ 1 1 then jup σ 1 2 x else σ) = σ1) (h2 : (if ¬ (0 ≤ x ∧ x ≤ 2) then -2 else if ¬ 0 < σ1 36 2 then -3 else σ1 36 3) = z2 ∧ (if (0 ≤ x ∧ x ≤ 2) ∧ 0 < σ1 36 2 then jup σ1 36 3 x else σ1) = σ2) : z1 = z2 ∧ Rel σ2 := by
  obtain ⟨rfl, h1⟩ := h1
  obtain ⟨rfl, h2⟩ := h2
  have hn := Rel_n h.1
  have hm := Rel_m h.1
  have e36 : σ1 36 = σ 36 := by
    rw [← h1]
    split
    · exact jup_ne (by omega)
    · rfl
  rw [e36, ← hn] at h2
  refine ⟨by rw [e36, ← hn, ← hm], ?_⟩
  by_cases e : (0 ≤ x ∧ x ≤ 2) ∧ 0 < σ 1 1
  · rw [if_pos e] at h1 h2
    rw [← h2, ← h1]
    exact Rel_both0 (j := 2) h (Or.inl rfl)
  · rw [if_neg e] at h1 h2
    rw [← h2, ← h1]
    exact h
theorem o_chalk (h : Rel σ) (h1 : (if ¬ (0 ≤ x ∧ x ≤ 9) then -2 else if ¬ 0 < σ 1 1 then -3 else σ 1 3) = z1 ∧ (if (0 ≤ x ∧ x ≤ 9) ∧ 0 < σ 1 1 then jup σ 1 3 x else σ) = σ1) (h2 : (if ¬ (0 ≤ x ∧ x ≤ 9) then -2 else if ¬ 0 < σ1 36 2 then -3 else σ1 36 4) = z2 ∧ (if (0 ≤ x ∧ x ≤ 9) ∧ 0 < σ1 36 2 then jup σ1 36 4 x else σ1) = σ2) : z1 = z2 ∧ Rel σ2 := by
  obtain ⟨rfl, h1⟩ := h1
  obtain ⟨rfl, h2⟩ := h2
  have hn := Rel_n h.1
  have hm := Rel_ch h.1
  have e36 : σ1 36 = σ 36 := by
    rw [← h1]
    split
    · exact jup_ne (by omega)
    · rfl
  rw [e36, ← hn] at h2
  refine ⟨by rw [e36, ← hn, ← hm], ?_⟩
  by_cases e : (0 ≤ x ∧ x ≤ 9) ∧ 0 < σ 1 1
  · rw [if_pos e] at h1 h2
    rw [← h2, ← h1]
    exact Rel_both0 (j := 3) h (Or.inr rfl)
  · rw [if_neg e] at h1 h2
    rw [← h2, ← h1]
    exact h
theorem o_know (h : Rel σ) (hB : jBd σ) (h1 : (if ¬ ((0 ≤ c ∧ c < σ 1 1) ∧ (0 ≤ x ∧ x < σ 1 1) ∧ ¬ c = x) then -1 else bitM (ixor (σ 17 c) (2 ^ x.toNat)) x) = z1 ∧ (if (0 ≤ c ∧ c < σ 1 1) ∧ (0 ≤ x ∧ x < σ 1 1) ∧ ¬ c = x then jup σ 17 c (ixor (σ 17 c) (2 ^ x.toNat)) else σ) = σ1) (h2 : (if ¬ ((0 ≤ c ∧ c < σ1 36 2) ∧ (0 ≤ x ∧ x < σ1 36 2) ∧ ¬ c = x) then -1 else bitM (ixor (σ1 43 c) (2 ^ x.toNat)) x) = z2 ∧ (if (0 ≤ c ∧ c < σ1 36 2) ∧ (0 ≤ x ∧ x < σ1 36 2) ∧ ¬ c = x then jup σ1 43 c (ixor (σ1 43 c) (2 ^ x.toNat)) else σ1) = σ2) : z1 = z2 ∧ Rel σ2 := by
  obtain ⟨rfl, h1⟩ := h1
  obtain ⟨rfl, h2⟩ := h2
  have hn := Rel_n h.1
  have e36 : σ1 36 = σ 36 ∧ σ1 43 = σ 43 := by
    rw [← h1]
    split
    · exact ⟨jup_ne (by omega), jup_ne (by omega)⟩
    · exact ⟨rfl, rfl⟩
  rw [e36.1, e36.2, ← hn] at h2
  rw [e36.1, e36.2, ← hn]
  by_cases e : (0 ≤ c ∧ c < σ 1 1) ∧ (0 ≤ x ∧ x < σ 1 1) ∧ ¬ c = x
  · have hk := h.2.1 c e.1.1 e.1.2
    rw [if_pos e] at h1 h2
    rw [if_neg (fun q => q e), if_neg (fun q => q e), hk.1]
    refine ⟨rfl, ?_⟩
    rw [← h2, ← h1, ← hk.1]
    obtain ⟨a, b, cc, d, ee, g⟩ := h
    have hlt : (ixor (σ 17 c) (2 ^ x.toNat)).toNat < 2 ^ (σ 1 1).toNat := by
      unfold ixor
      rw [Int.toNat_natCast]
      refine Nat.xor_lt_two_pow hk.2 ?_
      have e2 : ((2 : Int) ^ x.toNat).toNat = 2 ^ x.toNat := by
        rw [show ((2 : Int) ^ x.toNat) = ((2 ^ x.toNat : Nat) : Int) by rw [Int.natCast_pow]; rfl, Int.toNat_natCast]
      rw [e2]
      exact Nat.pow_lt_pow_right (by omega) (by omega)
    refine ⟨⟨?_, ?_⟩, fun j x1 y1 => ?_, RelD_of cc rfl rfl (by rw [jup_ne (by omega), jup_ne (by omega)]) (by rw [jup_ne (by omega), jup_ne (by omega)]) rfl (by rw [jup_ne (by omega), jup_ne (by omega)]) (by rw [jup_ne (by omega), jup_ne (by omega)]), d, ee, RelS_of g (fun q _ _ => by rw [jup_ne (by omega), jup_ne (by omega)]) (by rw [jup_ne (by omega), jup_ne (by omega)]) (by rw [jup_ne (by omega), jup_ne (by omega)]) (by rw [jup_ne (by omega), jup_ne (by omega)])⟩
    · rw [vC_hi (by omega), vC_hi (by omega), vR_congr (σ := σ) (fun _ _ => by rw [jup_ne (by omega), jup_ne (by omega)]) (fun q hq => by rw [jup_ne (by omega), jup_ne (by omega)])]
      exact a.1
    · rw [vC_hi (by omega), vC_hi (by omega)]
      exact a.2
    · by_cases ej : j = c
      · subst ej
        rw [jup_at, jup_ne (by omega), jup_at]
        exact ⟨rfl, hlt⟩
      · rw [jup_ne2 ej, jup_ne (by omega), jup_ne2 ej, jup_ne (by omega)]
        exact b j x1 y1
  · rw [if_neg e] at h1 h2
    rw [if_pos e, if_pos e, ← h2, ← h1]
    exact ⟨rfl, h⟩
theorem o_more (h : Rel σ) (h1 : (if ¬ (1 ≤ x ∧ x ≤ 99) then -2 else if ¬ 0 < σ 1 1 then -3 else popM (starvM (itV (vC σ 1) x.toNat))) = z1 ∧ (if (1 ≤ x ∧ x ≤ 99) ∧ 0 < σ 1 1 then jset σ 5 (itV (vC σ 1) x.toNat 4) else σ) = σ1) (h2 : (if ¬ (1 ≤ x ∧ x ≤ 99) then -2 else if ¬ 0 < σ1 36 2 then -3 else popM (starvM (itV (vR σ1) x.toNat))) = z2 ∧ mrQ σ1 (if (1 ≤ x ∧ x ≤ 99) ∧ 0 < σ1 36 2 then x.toNat else 0) σ2) : z1 = z2 ∧ Rel σ2 := by
  obtain ⟨rfl, h1⟩ := h1
  obtain ⟨rfl, h2, h3⟩ := h2
  have hn := Rel_n h.1
  have js : ∀ q, q ≠ 5 → σ1 q = σ q := by
    intro q hq
    rw [← h1]
    split
    · funext i; unfold jset; rw [if_neg hq]
    · rfl
  have e36 : σ1 36 = σ 36 := js 36 (by omega)
  have ev : vR σ1 = vR σ := vR_congr (fun _ _ => by rw [e36]) (fun q hq => js q (by omega))
  have hit := it_c h.1.1 h.1.2 x.toNat
  rw [e36, ev, ← hn] at h2
  refine ⟨by rw [e36, ev, ← hn, starv_c hit.1 hit.2], ?_⟩
  have hv1 : vC σ1 1 = itV (vC σ 1) (if (1 ≤ x ∧ x ≤ 99) ∧ 0 < σ 1 1 then x.toNat else 0) := by
    rw [← h1]
    by_cases e : (1 ≤ x ∧ x ≤ 99) ∧ 0 < σ 1 1
    · rw [if_pos e, if_pos e, show (5 : Nat) = 1 + 4 from rfl, vC_set _ _ _ _ (by omega)]
      exact (itV_4 _ _).symm
    · rw [if_neg e, if_neg e]
      rfl
  have hv2 : vC σ2 1 = vC σ1 1 := vC1_of (fun q _ _ => h3 q (by omega) (by omega) (by omega) (by omega))
  have hit2 := it_c h.1.1 h.1.2 (if (1 ≤ x ∧ x ≤ 99) ∧ 0 < σ 1 1 then x.toNat else 0)
  have hq : ∀ q, q ≠ 5 → q ≠ 40 → q ≠ 50 → q ≠ 51 → q ≠ 52 → σ2 q = σ q := fun q a b c d e => (h3 q b c d e).trans (js q a)
  refine Rel_view h (by rw [hq 1 (by omega) (by omega) (by omega) (by omega) (by omega)]) (fun q hh => hq q (by omega) (by omega) (by omega) (by omega) (by omega)) (fun j _ => by rw [hq 36 (by omega) (by omega) (by omega) (by omega) (by omega)]) ⟨?_, ?_⟩
  · rw [hv2, hv1, h2]; exact hit2.1
  · rw [hv2, hv1]; exact hit2.2
theorem o_reading (h : Rel σ) (hB : jBd σ) (h1 : aDig (σ 1 1) c x (if 8 ≤ σ 24 2 then -4 else σ 24 2) = z1 ∧ (if (0 ≤ c ∧ c < σ 1 1) ∧ 0 ≤ x ∧ x ≤ 9 then (if 8 ≤ σ 24 2 then σ else jup (jup (jup σ 25 (σ 24 2) c) 26 (σ 24 2) x) 24 2 (σ 24 2 + 1)) else σ) = σ1) (h2 : aDig (σ1 36 2) c x (if 8 ≤ σ1 36 33 then -4 else σ1 36 33) = z2 ∧ (if (0 ≤ c ∧ c < σ1 36 2) ∧ 0 ≤ x ∧ x ≤ 9 then (if 8 ≤ σ1 36 33 then σ1 else jup (jup (jup σ1 59 (σ1 36 33) c) 60 (σ1 36 33) x) 36 33 (σ1 36 33 + 1)) else σ1) = σ2) : z1 = z2 ∧ Rel σ2 := by
  obtain ⟨rfl, h1⟩ := h1
  obtain ⟨rfl, h2⟩ := h2
  have hn := Rel_n h.1
  have hc := h.2.2.1.1
  have h0 : 0 ≤ σ 24 2 ∧ σ 24 2 ≤ 8 := hB 24 2
  have e36 : σ1 36 = σ 36 := by
    rw [← h1]
    split
    · split
      · rfl
      · rw [jup_ne (by omega), jup_ne (by omega), jup_ne (by omega)]
    · rfl
  rw [e36, ← hn, ← hc] at h2
  refine ⟨by rw [e36]; exact aDig_c hn (fun _ _ => by rw [hc]), ?_⟩
  by_cases e : (0 ≤ c ∧ c < σ 1 1) ∧ 0 ≤ x ∧ x ≤ 9
  · rw [if_pos e] at h1 h2
    by_cases e8 : 8 ≤ σ 24 2
    · rw [if_pos e8] at h1 h2
      rw [← h2, ← h1]; exact h
    · rw [if_neg e8] at h1 h2
      rw [← h2, ← h1]
      generalize hk : σ 24 2 = k at *
      obtain ⟨a, b, ⟨cc1, cc2⟩, d, ee, g⟩ := h
      refine ⟨⟨?_, ?_⟩, RelK_of b rfl rfl rfl, ⟨?_, fun j x1 y1 => ?_⟩, d, ee, RelS_of g (fun q _ _ => by rw [jup_ne (by omega), jup_ne (by omega), jup_ne (by omega), jup_ne (by omega), jup_ne (by omega), jup_ne (by omega)]) rfl rfl rfl⟩
      · rw [vC_hi (by omega), vC_hi (by omega), vC_hi (by omega), vC_hi (by omega), vC_hi (by omega), vC_hi (by omega)]
        rw [vR_congr (σ := σ) (fun j hj => ?_) (fun q hq => ?_)]
        · exact a.1
        · rw [jup_ne2 (by omega), jup_ne (by omega), jup_ne (by omega), jup_ne (by omega), jup_ne (by omega), jup_ne (by omega)]
        · rw [jup_ne (by omega), jup_ne (by omega), jup_ne (by omega), jup_ne (by omega), jup_ne (by omega), jup_ne (by omega)]
      · rw [vC_hi (by omega), vC_hi (by omega), vC_hi (by omega), vC_hi (by omega), vC_hi (by omega), vC_hi (by omega)]
        exact a.2
      · rw [jup_ne (by omega), jup_ne (by omega), jup_ne (by omega), jup_at, jup_at]
      · have y2 : j < k + 1 := y1
        show jup σ 25 k c 25 j = jup σ 59 k c 59 j ∧ jup σ 26 k x 26 j = jup σ 60 k x 60 j ∧ jup σ 25 k c 25 j < σ 1 1
        by_cases ej : j = k
        · subst ej
          rw [jup_at, jup_at, jup_at, jup_at]
          exact ⟨rfl, rfl, e.1.2⟩
        · rw [jup_ne2 ej, jup_ne2 ej, jup_ne2 ej, jup_ne2 ej]
          exact cc2 j x1 (by rw [hk]; omega)
  · rw [if_neg e] at h1 h2
    rw [← h2, ← h1]; exact h
theorem o_back (h : Rel σ) (h1 : (if ¬ (0 ≤ x ∧ x ≤ σ 24 2) then -2 else σ 24 2 - x) = z1 ∧ (if 0 ≤ x ∧ x ≤ σ 24 2 then jup σ 24 2 (σ 24 2 - x) else σ) = σ1) (h2 : (if ¬ (0 ≤ x ∧ x ≤ σ1 36 33) then -2 else σ1 36 33 - x) = z2 ∧ (if 0 ≤ x ∧ x ≤ σ1 36 33 then jup σ1 36 33 (σ1 36 33 - x) else σ1) = σ2) : z1 = z2 ∧ Rel σ2 := by
  obtain ⟨rfl, h1⟩ := h1
  obtain ⟨rfl, h2⟩ := h2
  have hc := h.2.2.1.1
  have e36 : σ1 36 = σ 36 := by
    rw [← h1]
    split
    · exact jup_ne (by omega)
    · rfl
  rw [e36, ← hc] at h2
  refine ⟨by rw [e36, ← hc], ?_⟩
  by_cases e : 0 ≤ x ∧ x ≤ σ 24 2
  · rw [if_pos e] at h1 h2
    rw [← h2, ← h1]
    obtain ⟨a, b, ⟨cc1, cc2⟩, d, ee, g⟩ := h
    refine ⟨⟨?_, ?_⟩, RelK_of b rfl rfl rfl, ⟨?_, fun j x1 y1 => ?_⟩, d, ee, RelS_of g (fun q _ _ => by rw [jup_ne (by omega), jup_ne (by omega)]) rfl rfl rfl⟩
    · rw [vC_hi (by omega), vC_hi (by omega), vR_congr (σ := σ) (fun j hj => ?_) (fun q hq => ?_)]
      · exact a.1
      · rw [jup_ne2 (by omega), jup_ne (by omega)]
      · rw [jup_ne (by omega), jup_ne (by omega)]
    · rw [vC_hi (by omega), vC_hi (by omega)]; exact a.2
    · rw [jup_ne (by omega), jup_at, jup_at]
    · have y2 : j < σ 24 2 - x := y1
      exact cc2 j x1 (by omega)
  · rw [if_neg e] at h1 h2
    rw [← h2, ← h1]; exact h
theorem Rel_of (h : Rel σ) (hq : ∀ q, q ≠ 0 → q ≠ 36 → τ q = σ q) (h9 : τ 0 9 = τ 36 40) (h36 : ∀ j, j ≠ 0 → j ≠ 40 → τ 36 j = σ 36 j) (hf : τ 0 10 = τ 36 0) : Rel τ := by
  obtain ⟨⟨a1, a2⟩, b, c, d, e, g⟩ := h
  have e1 : vC τ 1 = vC σ 1 := vC1_of (fun q _ _ => hq q (by omega) (by omega))
  have e2 : vR τ = vR σ := vR_congr (fun j _ => h36 (j + 1) (by omega) (by omega)) (fun q _ => hq q (by omega) (by omega))
  exact ⟨⟨by rw [e1, e2]; exact a1, by rw [e1]; exact a2⟩, RelK_of b (by rw [hq 1 (by omega) (by omega)]) (hq 17 (by omega) (by omega)) (hq 43 (by omega) (by omega)), RelD_of c (by rw [hq 1 (by omega) (by omega)]) (by rw [hq 24 (by omega) (by omega)]) (hq 25 (by omega) (by omega)) (hq 26 (by omega) (by omega)) (h36 33 (by omega) (by omega)) (hq 59 (by omega) (by omega)) (hq 60 (by omega) (by omega)), h9, hf, RelS_of g (fun q _ _ => hq q (by omega) (by omega)) (hq 61 (by omega) (by omega)) (hq 62 (by omega) (by omega)) (hq 63 (by omega) (by omega))⟩
theorem Rel_tr (h : Rel σ) (t : Int) : Rel (jup (jup σ 0 9 t) 36 40 t) := by
  refine Rel_of h (fun q a b => by rw [jup_ne b, jup_ne a]) ?_ (fun j a b => by rw [jup_ne2 b, jup_ne (by omega)]) ?_
  · rw [jup_ne (by omega), jup_at, jup_at]
  · rw [jup_ne (by omega), jup_ne2 (by omega), jup_ne2 (by omega), jup_ne (by omega)]
    exact h.2.2.2.2.1
theorem Rel_ff (h : Rel σ) (f : Int) : Rel (jup (jup σ 0 10 f) 36 0 f) := by
  refine Rel_of h (fun q a b => by rw [jup_ne b, jup_ne a]) ?_ (fun j a b => by rw [jup_ne2 a, jup_ne (by omega)]) ?_
  · rw [jup_ne (by omega), jup_ne2 (by omega), jup_ne2 (by omega), jup_ne (by omega)]
    exact h.2.2.2.1
  · rw [jup_ne (by omega), jup_at, jup_at]
theorem o_tell (h : Rel σ) (h1 : (if ¬ (0 ≤ c ∧ c < σ 1 1) then -1 else if σ 3 c = 2 then σ 5 c + 100 + σ 5 c else if σ 3 c = 1 then σ 5 c + 100 else σ 5 c) = z1 ∧ (if ¬ (0 ≤ c ∧ c < σ 1 1) then σ else if σ 3 c = 2 then jup σ 0 9 (trc (trc (trc (trc (σ 0 9) 3) 2) 1) 1) else if σ 3 c = 1 then jup σ 0 9 (trc (trc (σ 0 9) 2) 1) else jup σ 0 9 (trc (σ 0 9) 1)) = σ1) (h2 : (if ¬ (0 ≤ c ∧ c < σ1 36 2) then -1 else if σ1 38 c = 2 then σ1 40 c + 100 + σ1 40 c else if σ1 38 c = 1 then σ1 40 c + 100 else σ1 40 c) = z2 ∧ (if ¬ (0 ≤ c ∧ c < σ1 36 2) then σ1 else if σ1 38 c = 2 then jup σ1 36 40 (trc (trc (trc (trc (σ1 36 40) 3) 2) 1) 1) else if σ1 38 c = 1 then jup σ1 36 40 (trc (trc (σ1 36 40) 2) 1) else jup σ1 36 40 (trc (σ1 36 40) 1)) = σ2) : z1 = z2 ∧ Rel σ2 := by
  obtain ⟨rfl, h1⟩ := h1
  obtain ⟨rfl, h2⟩ := h2
  have hn := Rel_n h.1
  have ht := h.2.2.2.1
  have js : ∀ q, q ≠ 0 → σ1 q = σ q := by
    intro q hq
    rw [← h1]
    repeat' split
    all_goals first | rfl | exact jup_ne hq
  rw [js 36 (by omega), js 38 (by omega), ← hn, ← ht] at h2
  rw [js 36 (by omega), js 38 (by omega), js 40 (by omega), ← hn]
  by_cases e : 0 ≤ c ∧ c < σ 1 1
  · have hk : σ 3 c = σ 38 c := row_c h.1.1 e 2
    have hs : σ 5 c = σ 40 c := row_c h.1.1 e 4
    rw [← hk, ← hs]
    refine ⟨rfl, ?_⟩
    rw [if_neg (fun q => q e)] at h1 h2
    rw [← hk] at h2
    by_cases e2 : σ 3 c = 2
    · rw [if_pos e2] at h1 h2; rw [← h2, ← h1]; exact Rel_tr h _
    · rw [if_neg e2] at h1 h2
      by_cases e1 : σ 3 c = 1
      · rw [if_pos e1] at h1 h2; rw [← h2, ← h1]; exact Rel_tr h _
      · rw [if_neg e1] at h1 h2; rw [← h2, ← h1]; exact Rel_tr h _
  · rw [if_pos e] at h1 h2
    rw [if_pos e, if_pos e, ← h2, ← h1]; exact ⟨rfl, h⟩
theorem o_greet (h : Rel σ) (h1 : (if ¬ (0 ≤ c ∧ c < σ 1 1) then -1 else if σ 3 c = 2 then 60 else σ 4 c) = z1 ∧ (if ¬ (0 ≤ c ∧ c < σ 1 1) then σ else if σ 3 c = 2 then jup σ 0 9 (trc (σ 0 9) 5) else jup σ 0 9 (trc (σ 0 9) 4)) = σ1) (h2 : (if ¬ (0 ≤ c ∧ c < σ1 36 2) then -1 else if σ1 38 c = 2 then 60 else σ1 39 c) = z2 ∧ (if ¬ (0 ≤ c ∧ c < σ1 36 2) then σ1 else if σ1 38 c = 2 then jup σ1 36 40 (trc (σ1 36 40) 5) else jup σ1 36 40 (trc (σ1 36 40) 4)) = σ2) : z1 = z2 ∧ Rel σ2 := by
  obtain ⟨rfl, h1⟩ := h1
  obtain ⟨rfl, h2⟩ := h2
  have hn := Rel_n h.1
  have ht := h.2.2.2.1
  have js : ∀ q, q ≠ 0 → σ1 q = σ q := by
    intro q hq
    rw [← h1]
    repeat' split
    all_goals first | rfl | exact jup_ne hq
  rw [js 36 (by omega), js 38 (by omega), ← hn, ← ht] at h2
  rw [js 36 (by omega), js 38 (by omega), js 39 (by omega), ← hn]
  by_cases e : 0 ≤ c ∧ c < σ 1 1
  · have hk : σ 3 c = σ 38 c := row_c h.1.1 e 2
    have hs : σ 4 c = σ 39 c := row_c h.1.1 e 3
    rw [← hk, ← hs]
    refine ⟨rfl, ?_⟩
    rw [if_neg (fun q => q e)] at h1 h2
    rw [← hk] at h2
    by_cases e2 : σ 3 c = 2
    · rw [if_pos e2] at h1 h2; rw [← h2, ← h1]; exact Rel_tr h _
    · rw [if_neg e2] at h1 h2; rw [← h2, ← h1]; exact Rel_tr h _
  · rw [if_pos e] at h1 h2
    rw [if_pos e, if_pos e, ← h2, ← h1]; exact ⟨rfl, h⟩
theorem o_as (h : Rel σ) (h1 : (if ¬ (0 ≤ c ∧ c < σ 1 1) then -1 else if ¬ (0 ≤ x ∧ x ≤ 2) then -2 else if x ≤ σ 3 c then 1 else -10 - 2) = z1 ∧ jup σ 0 10 (if ¬ (0 ≤ c ∧ c < σ 1 1) then 0 else if ¬ (0 ≤ x ∧ x ≤ 2) then 0 else if x ≤ σ 3 c then 0 else 2) = σ1) (h2 : (if ¬ (0 ≤ c ∧ c < σ1 36 2) then -1 else if ¬ (0 ≤ x ∧ x ≤ 2) then -2 else if x ≤ σ1 38 c then 1 else -10 - 2) = z2 ∧ jup σ1 36 0 (if ¬ (0 ≤ c ∧ c < σ1 36 2) then 0 else if ¬ (0 ≤ x ∧ x ≤ 2) then 0 else if x ≤ σ1 38 c then 0 else 2) = σ2) : z1 = z2 ∧ Rel σ2 := by
  obtain ⟨rfl, rfl⟩ := h1
  obtain ⟨rfl, rfl⟩ := h2
  have hn := Rel_n h.1
  have e36 : ∀ f : Int, jup σ 0 10 f 36 2 = σ 36 2 := fun f => by rw [jup_ne (by omega)]
  have e38 : ∀ f : Int, jup σ 0 10 f 38 c = σ 38 c := fun f => by rw [jup_ne (by omega)]
  rw [e36, e38, ← hn]
  by_cases e : 0 ≤ c ∧ c < σ 1 1
  · have hk : σ 3 c = σ 38 c := row_c h.1.1 e 2
    rw [← hk]
    exact ⟨rfl, Rel_ff h _⟩
  · rw [if_pos e, if_pos e, if_pos e, if_pos e]
    exact ⟨rfl, Rel_ff h _⟩
end
