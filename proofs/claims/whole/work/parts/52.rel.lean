/-! ===== what holds between the class and the reference at the head of the law's loop ===== -/
def shR (σ : jS) (k : Int) : Prop := (σ 61 k = -1 ∧ σ (sc k) 1 = -1) ∨ (σ 61 k = σ (sc k) 2 ∧ σ 62 k = σ (sc k) 1 ∧ 0 ≤ σ 61 k ∧ 0 ≤ σ (sc k) 1 ∧ ∀ j, 0 ≤ j → j < σ 61 k → σ (sc k + 1) j = σ 63 (60 * k + j))
def RelV (σ : jS) : Prop := vEq (vC σ 1) (vR σ) ∧ okV (vC σ 1)
def RelK (σ : jS) : Prop := ∀ j, 0 ≤ j → j < σ 1 1 → σ 17 j = σ 43 j ∧ (σ 17 j).toNat < 2 ^ (σ 1 1).toNat
def RelD (σ : jS) : Prop := σ 24 2 = σ 36 33 ∧ ∀ j, 0 ≤ j → j < σ 24 2 → σ 25 j = σ 59 j ∧ σ 26 j = σ 60 j ∧ σ 25 j < σ 1 1
def RelS (σ : jS) : Prop := ∀ k, 0 ≤ k → k < 4 → shR σ k
def Rel (σ : jS) : Prop := RelV σ ∧ RelK σ ∧ RelD σ ∧ σ 0 9 = σ 36 40 ∧ σ 0 10 = σ 36 0 ∧ RelS σ
theorem sc_b {k : Int} (h : 0 ≤ k ∧ k < 4) : 28 ≤ sc k ∧ sc k ≤ 34 := by unfold sc; omega
section
variable {σ τ ρ : jS}
theorem RelK_of (h : RelK σ) (h1 : τ 1 1 = σ 1 1) (h2 : τ 17 = σ 17) (h3 : τ 43 = σ 43) : RelK τ := by
  intro j a b
  rw [h1] at b
  rw [h1, h2, h3]
  exact h j a b
theorem RelD_of (h : RelD σ) (h1 : τ 1 1 = σ 1 1) (h2 : τ 24 2 = σ 24 2) (h3 : τ 25 = σ 25) (h4 : τ 26 = σ 26) (h5 : τ 36 33 = σ 36 33) (h6 : τ 59 = σ 59) (h7 : τ 60 = σ 60) : RelD τ := by
  refine ⟨by rw [h2, h5]; exact h.1, fun j a b => ?_⟩
  rw [h2] at b
  rw [h1, h3, h4, h6, h7]
  exact h.2 j a b
theorem shR_of {k : Int} (h : shR σ k) (h1 : τ (sc k) = σ (sc k)) (h2 : τ (sc k + 1) = σ (sc k + 1)) (h3 : τ 61 k = σ 61 k) (h4 : τ 62 k = σ 62 k) (h5 : ∀ j, 0 ≤ j → j < 60 → τ 63 (60 * k + j) = σ 63 (60 * k + j)) (hb : σ 61 k ≤ 60) : shR τ k := by
  unfold shR
  rw [h1, h2, h3, h4]
  rcases h with h | ⟨a1, a2, a3, a4, a5⟩
  · exact Or.inl h
  · exact Or.inr ⟨a1, a2, a3, a4, fun j x y => by rw [h5 j x (by omega)]; exact a5 j x y⟩
theorem RelS_of (h : RelS σ) (h1 : ∀ q, 28 ≤ q → q ≤ 35 → τ q = σ q) (h2 : τ 61 = σ 61) (h3 : τ 62 = σ 62) (h4 : τ 63 = σ 63) : RelS τ := by
  intro k a b
  have hs := sc_b ⟨a, b⟩
  have hk := h k a b
  unfold shR at *
  rw [h1 (sc k) (by omega) (by omega), h1 (sc k + 1) (by omega) (by omega), h2, h3, h4]
  exact hk
theorem vC1_of (h : ∀ q, 1 ≤ q → q ≤ 7 → τ q = σ q) : vC τ 1 = vC σ 1 := by
  funext i j
  unfold vC
  by_cases e : i ≤ 6
  · rw [if_pos e, if_pos e, h (1 + i) (by omega) (by omega)]
  · rw [if_neg e, if_neg e]
theorem Rel_F22 (h : Rel σ) (f : F22 σ τ) : Rel τ := by
  obtain ⟨⟨a1, a2⟩, b, c, d, e, g⟩ := h
  have fq : ∀ q, (q < 8 ∨ (15 ≤ q ∧ q ≤ 17) ∨ 24 ≤ q) → τ q = σ q := fun q hq => f q (by omega)
  have e1 : vC τ 1 = vC σ 1 := vC1_of (fun q _ _ => fq q (by omega))
  have e2 : vR τ = vR σ := vR_congr (fun j _ => by rw [fq 36 (by omega)]) (fun q hq => fq q (by omega))
  refine ⟨⟨by rw [e1, e2]; exact a1, by rw [e1]; exact a2⟩, RelK_of b (by rw [fq 1 (by omega)]) (fq 17 (by omega)) (fq 43 (by omega)), RelD_of c (by rw [fq 1 (by omega)]) (by rw [fq 24 (by omega)]) (fq 25 (by omega)) (fq 26 (by omega)) (by rw [fq 36 (by omega)]) (fq 59 (by omega)) (fq 60 (by omega)), by rw [fq 0 (by omega), fq 36 (by omega)]; exact d, by rw [fq 0 (by omega), fq 36 (by omega)]; exact e, RelS_of g (fun q _ _ => fq q (by omega)) (fq 61 (by omega)) (fq 62 (by omega)) (fq 63 (by omega))⟩
theorem F22_F8 (f : F8 σ τ) : F22 σ τ := fun q hq => f q (by omega)
theorem F22_19 (f : ∀ q, q ≠ 19 → τ q = σ q) : F22 σ τ := fun q hq => f q (by omega)
theorem F22_refl (σ : jS) : F22 σ σ := fun _ _ => rfl
theorem Rel_n (h : RelV σ) : σ 1 1 = σ 36 2 := vE1 h.1
theorem Rel_g (h : RelV σ) : σ 1 0 = σ 36 1 := vE0 h.1
theorem Rel_m (h : RelV σ) : σ 1 2 = σ 36 3 := vE2 h.1
theorem Rel_ch (h : RelV σ) : σ 1 3 = σ 36 4 := vE3 h.1
theorem Rel_okG (h : RelV σ) : okG σ := by
  intro c a b
  rw [← Rel_n h] at b
  rw [← Rel_g h]
  have h5 : σ 6 c = σ 41 c := h.1.2.2 5 (by omega) (by omega) c a b
  rw [← h5]
  exact (h.2 c a b).2
theorem Rel_okRd (h : Rel σ) : okRd σ := by
  intro j a b
  rw [← Rel_n h.1]
  rw [← h.2.2.1.1] at b
  have := h.2.2.1.2 j a b
  omega
theorem Rel_KR (h : Rel σ) (f : KR σ τ) : Rel τ := by
  obtain ⟨⟨a1, a2⟩, b, c, d, e, g⟩ := h
  obtain ⟨f1, f2, f3, f4⟩ := f
  have hn := vE1 a1
  have hg := vE0 a1
  have e1 : vC τ 1 = vC σ 1 := vC1_of (fun q _ _ => f1 q (by omega))
  have ev : vEq (vC σ 1) (vR τ) := by
    refine ⟨fun i x y => ?_, fun j x y => ?_, fun r x y j z w => ?_⟩
    · rw [a1.1 i x y]
      show (if (0 : Int) ≤ i ∧ i ≤ 3 then σ 36 (i + 1) else 0) = (if (0 : Int) ≤ i ∧ i ≤ 3 then τ 36 (i + 1) else 0)
      rw [f2 (i + 1) (by omega)]
    · rw [a1.2.1 j x y]
      show σ 37 j = τ 37 j
      exact (f3 j x (by rw [hg] at y; exact y)).symm
    · rw [a1.2.2 r x y j z w]
      unfold vR
      rw [if_neg (by omega), if_pos y, if_neg (by omega), if_pos y]
      exact (f4 (36 + r) (by omega) (by omega) j z (by rw [hn] at w; exact w)).symm
  refine ⟨⟨by rw [e1]; exact ev, by rw [e1]; exact a2⟩, RelK_of b (by rw [f1 1 (by omega)]) (f1 17 (by omega)) (f1 43 (by omega)), RelD_of c (by rw [f1 1 (by omega)]) (by rw [f1 24 (by omega)]) (f1 25 (by omega)) (f1 26 (by omega)) (f2 33 (by omega)) (f1 59 (by omega)) (f1 60 (by omega)), by rw [f1 0 (by omega), f2 40 (by omega)]; exact d, by rw [f1 0 (by omega), f2 0 (by omega)]; exact e, RelS_of g (fun q _ _ => f1 q (by omega)) (f1 61 (by omega)) (f1 62 (by omega)) (f1 63 (by omega))⟩
theorem Rel_G3 (h : Rel σ) (f : G3 σ τ) : Rel τ := Rel_KR h (KR_G3 f)
end
section
variable {σ σ1 σ2 : jS} {c x g y z1 z2 : Int}
theorem vC_F22 (f : F22 σ σ1) : vC σ1 1 = vC σ 1 := vC1_of (fun q _ _ => f q (by omega))
theorem o_ofComer (h : Rel σ) (h1 : aOfComer (σ 1 1) (vC σ 1) c x = z1 ∧ σ = σ1) (h2 : aOfComer (σ1 36 2) (vR σ1) c x = z2 ∧ G3 σ1 σ2) : z1 = z2 ∧ Rel σ2 := by
  obtain ⟨rfl, rfl⟩ := h1
  obtain ⟨rfl, f⟩ := h2
  exact ⟨ofComer_c h.1.1 h.1.2, Rel_G3 h f⟩
theorem o_ofGate (h : Rel σ) (h1 : aOfGate (σ 1 0) (vC σ 1) c x = z1 ∧ σ = σ1) (h2 : aOfGate (σ1 36 1) (vR σ1) c x = z2 ∧ G3 σ1 σ2) : z1 = z2 ∧ Rel σ2 := by
  obtain ⟨rfl, rfl⟩ := h1
  obtain ⟨rfl, f⟩ := h2
  exact ⟨ofGate_c h.1.1 h.1.2, Rel_G3 h f⟩
theorem o_far (h : Rel σ) (hB : jBd σ) (h1 : (if ¬ ((0 ≤ c ∧ c < σ 1 1) ∧ 0 ≤ x ∧ x < σ 1 1) then -1 else farM (σ 17) c x) = z1 ∧ σ = σ1) (h2 : (if ¬ ((0 ≤ c ∧ c < σ1 36 2) ∧ 0 ≤ x ∧ x < σ1 36 2) then -1 else farR (σ1 36 2).toNat (σ1 43) c x) = z2 ∧ σ1 = σ2) : z1 = z2 ∧ Rel σ2 := by
  obtain ⟨rfl, rfl⟩ := h1
  obtain ⟨rfl, rfl⟩ := h2
  have hn := Rel_n h.1
  have hb : 0 ≤ σ 1 1 ∧ σ 1 1 ≤ 6 := hB 1 1
  refine ⟨?_, h⟩
  rw [← hn]
  by_cases e : (0 ≤ c ∧ c < σ 1 1) ∧ 0 ≤ x ∧ x < σ 1 1
  · rw [if_neg (fun q => q e), if_neg (fun q => q e)]
    exact far_eq (by omega) (fun j a b => (h.2.1 j a (by omega)).1) (fun j a b => (h.2.1 j a (by omega)).2) (by omega)
  · rw [if_pos e, if_pos e]
theorem o_lantern (h : Rel σ) (h1 : (if ¬ ((0 ≤ c ∧ c ≤ 30) ∧ 0 ≤ x ∧ x ≤ 1) then -2 else if ¬ 0 < σ 1 1 then -3 else if x = 0 then sumN (heldF (vC σ 1) c) (nM (vC σ 1)) else sumN (unheldF (vC σ 1) c) (nM (vC σ 1))) = z1 ∧ σ = σ1) (h2 : (if ¬ ((0 ≤ c ∧ c ≤ 30) ∧ 0 ≤ x ∧ x ≤ 1) then -2 else if ¬ 0 < σ1 36 2 then -3 else if x = 0 then sumN (heldF (vR σ1) c) (nM (vR σ1)) else sumN (unheldF (vR σ1) c) (nM (vR σ1))) = z2 ∧ σ1 = σ2) : z1 = z2 ∧ Rel σ2 := by
  obtain ⟨rfl, rfl⟩ := h1
  obtain ⟨rfl, rfl⟩ := h2
  refine ⟨?_, h⟩
  rw [← Rel_n h.1, held_c h.1.1, unheld_c h.1.1]
theorem o_best (h : Rel σ) (h1 : (if ¬ 0 < σ 1 1 then -3 else argm (misM (vC σ 1)) 30) = z1 ∧ σ = σ1) (h2 : (if ¬ 0 < σ1 36 2 then -3 else argm (misM (vR σ1)) 30) = z2 ∧ σ1 = σ2) : z1 = z2 ∧ Rel σ2 := by
  obtain ⟨rfl, rfl⟩ := h1
  obtain ⟨rfl, rfl⟩ := h2
  refine ⟨?_, h⟩
  rw [← Rel_n h.1, mis_c h.1.1]
theorem o_without (h : Rel σ) (h1 : aWithout (σ 1 1) (vC σ 1) x = z1 ∧ F8 σ σ1) (h2 : aWithout (σ1 36 2) (vR σ1) x = z2 ∧ G3 σ1 σ2) : z1 = z2 ∧ Rel σ2 := by
  obtain ⟨rfl, f1⟩ := h1
  obtain ⟨rfl, f⟩ := h2
  have hr := Rel_F22 h (F22_F8 f1)
  refine ⟨?_, Rel_G3 hr f⟩
  rw [show σ 1 1 = σ1 1 1 by rw [f1 1 (by omega)], ← vC_F22 (F22_F8 f1)]
  exact without_c hr.1.1 hr.1.2
theorem o_gain (h : Rel σ) (h1 : (if ¬ (0 ≤ c ∧ c < σ 1 1) then -1 else gainM (vC σ 1) c) = z1 ∧ F8 σ σ1) (h2 : (if ¬ (0 ≤ c ∧ c < σ1 36 2) then -1 else gainM (vR σ1) c) = z2 ∧ G3 σ1 σ2) : z1 = z2 ∧ Rel σ2 := by
  obtain ⟨rfl, f1⟩ := h1
  obtain ⟨rfl, f⟩ := h2
  have hr := Rel_F22 h (F22_F8 f1)
  refine ⟨?_, Rel_G3 hr f⟩
  rw [show σ 1 1 = σ1 1 1 by rw [f1 1 (by omega)], ← vC_F22 (F22_F8 f1), ← Rel_n hr.1]
  by_cases e : 0 ≤ c ∧ c < σ1 1 1
  · rw [if_neg (fun q => q e), if_neg (fun q => q e)]; exact gain_c hr.1.1 hr.1.2 e
  · rw [if_pos e, if_pos e]
theorem o_needs (h : Rel σ) (h1 : (if ¬ (0 ≤ c ∧ c < σ 1 1) then -1 else needsM (vC σ 1) c) = z1 ∧ F8 σ σ1) (h2 : (if ¬ (0 ≤ c ∧ c < σ1 36 2) then -1 else needsM (vR σ1) c) = z2 ∧ G3 σ1 σ2) : z1 = z2 ∧ Rel σ2 := by
  obtain ⟨rfl, f1⟩ := h1
  obtain ⟨rfl, f⟩ := h2
  have hr := Rel_F22 h (F22_F8 f1)
  refine ⟨?_, Rel_G3 hr f⟩
  rw [show σ 1 1 = σ1 1 1 by rw [f1 1 (by omega)], ← vC_F22 (F22_F8 f1), ← Rel_n hr.1]
  by_cases e : 0 ≤ c ∧ c < σ1 1 1
  · rw [if_neg (fun q => q e), if_neg (fun q => q e)]; exact needs_c hr.1.1 hr.1.2 e
  · rw [if_pos e, if_pos e]
theorem o_parted (h : Rel σ) (h1 : aParted (σ 1 0) (σ 1 1) (parM (vC σ 1)) x = z1 ∧ F22 σ σ1) (h2 : aParted (σ1 36 1) (σ1 36 2) (parM (vR σ1)) x = z2 ∧ KR σ1 σ2) : z1 = z2 ∧ Rel σ2 := by
  obtain ⟨rfl, f1⟩ := h1
  obtain ⟨rfl, f⟩ := h2
  have hr := Rel_F22 h f1
  refine ⟨?_, Rel_KR hr f⟩
  rw [show σ 1 1 = σ1 1 1 by rw [f1 1 (by omega)], show σ 1 0 = σ1 1 0 by rw [f1 1 (by omega)], ← vC_F22 f1, ← Rel_n hr.1, ← Rel_g hr.1, par_c hr.1.1 hr.1.2]
theorem o_given (h : Rel σ) (hB1 : jBd σ1) (h1 : (if ¬ 0 < σ 1 1 then -3 else giveM (vC σ 1) (σ 17)) = z1 ∧ ∀ q, q ≠ 19 → σ1 q = σ q) (h2 : (if ¬ 0 < σ1 36 2 then -3 else gvR (vR σ1) (farR (σ1 36 2).toNat (σ1 43))) = z2 ∧ KR σ1 σ2) : z1 = z2 ∧ Rel σ2 := by
  obtain ⟨rfl, f1⟩ := h1
  obtain ⟨rfl, f⟩ := h2
  have hr := Rel_F22 h (F22_19 f1)
  refine ⟨?_, Rel_KR hr f⟩
  rw [show σ 1 1 = σ1 1 1 by rw [f1 1 (by omega)], ← vC_F22 (F22_19 f1), ← Rel_n hr.1, ← f1 17 (by omega)]
  by_cases e : 0 < σ1 1 1
  · rw [if_neg (fun q => q e), if_neg (fun q => q e)]
    exact give_eq hr.1.1 hr.1.2 (vC_B hB1 (Or.inl rfl)) e (fun j a b => (hr.2.1 j a b).1) (fun j a b => (hr.2.1 j a b).2)
  · rw [if_pos e, if_pos e]
theorem o_settles (h : Rel σ) (h1 : (if ¬ (0 ≤ x ∧ x ≤ 1) then -2 else if ¬ 0 < σ 1 1 then -3 else if x = 0 then (setT (numV (vC σ 1)) 301 0).1 else (setT (numV (vC σ 1)) 301 0).2) = z1 ∧ F22 σ σ1) (h2 : (if ¬ (0 ≤ x ∧ x ≤ 1) then -2 else if ¬ 0 < σ1 36 2 then -3 else if x = 0 then (setT (numV (vR σ1)) 301 0).1 else (setT (numV (vR σ1)) 301 0).2) = z2 ∧ KR σ1 σ2) : z1 = z2 ∧ Rel σ2 := by
  obtain ⟨rfl, f1⟩ := h1
  obtain ⟨rfl, f⟩ := h2
  have hr := Rel_F22 h f1
  refine ⟨?_, Rel_KR hr f⟩
  rw [show σ 1 1 = σ1 1 1 by rw [f1 1 (by omega)], ← vC_F22 f1, ← Rel_n hr.1, num_c hr.1.1 hr.1.2]
theorem so_rel (hr : Rel σ) (hB : jBd σ) {v v' : jS} (hv : vEq v v') (ho : okV v) (hn : v 0 1 = σ 1 1) : soN v (σ 25) (σ 26) (σ 24 2).toNat = soN v' (σ 59) (σ 60) (σ 36 33).toNat := by
  rw [← hr.2.2.1.1]
  refine so_c hv ho _ (fun j a b => ?_)
  have h1 := hr.2.2.1.2 j a (by omega)
  have h2 : 0 ≤ σ 25 j ∧ σ 25 j ≤ 5 := hB 25 j
  exact ⟨h1.1, h1.2.1, h2.1, by rw [hn]; exact h1.2.2⟩
theorem F8_rd (f1 : F8 σ σ1) : σ 1 1 = σ1 1 1 ∧ σ 25 = σ1 25 ∧ σ 26 = σ1 26 ∧ σ 24 2 = σ1 24 2 := ⟨by rw [f1 1 (by omega)], (f1 25 (by omega)).symm, (f1 26 (by omega)).symm, by rw [f1 24 (by omega)]⟩
theorem o_kinds (h : Rel σ) (hB1 : jBd σ1) (h1 : (if ¬ (0 ≤ c ∧ c < σ 1 1) then -1 else setN (fun x => soN (jup (vC σ 1) 2 c x) (σ 25) (σ 26) (σ 24 2).toNat) 3) = z1 ∧ F8 σ σ1) (h2 : (if ¬ (0 ≤ c ∧ c < σ1 36 2) then -1 else setN (fun x => soN (jup (vR σ1) 2 c x) (σ1 59) (σ1 60) (σ1 36 33).toNat) 3) = z2 ∧ G3 σ1 σ2) : z1 = z2 ∧ Rel σ2 := by
  obtain ⟨rfl, f1⟩ := h1
  obtain ⟨rfl, f⟩ := h2
  have hr := Rel_F22 h (F22_F8 f1)
  refine ⟨?_, Rel_G3 hr f⟩
  obtain ⟨q1, q2, q3, q4⟩ := F8_rd f1
  rw [q1, q2, q3, q4, ← vC_F22 (F22_F8 f1), ← Rel_n hr.1]
  by_cases e : 0 ≤ c ∧ c < σ1 1 1
  · rw [if_neg (fun q => q e), if_neg (fun q => q e)]
    refine setN_congr _ (fun d _ _ => so_rel hr hB1 (vEq_up hr.1.1 d (Or.inr (by omega))) (okV_up hr.1.2 d (Or.inr (by omega)) (by omega)) ?_)
    rw [jup_ne (by omega)]
    rfl
  · rw [if_pos e, if_pos e]
theorem o_shows (h : Rel σ) (hB1 : jBd σ1) (h1 : (if ¬ (0 ≤ c ∧ c < σ 1 1) then -1 else setN (fun x => soN (jup (vC σ 1) 4 c x) (σ 25) (σ 26) (σ 24 2).toNat) 10) = z1 ∧ F8 σ σ1) (h2 : (if ¬ (0 ≤ c ∧ c < σ1 36 2) then -1 else setN (fun x => soN (jup (vR σ1) 4 c x) (σ1 59) (σ1 60) (σ1 36 33).toNat) 10) = z2 ∧ G3 σ1 σ2) : z1 = z2 ∧ Rel σ2 := by
  obtain ⟨rfl, f1⟩ := h1
  obtain ⟨rfl, f⟩ := h2
  have hr := Rel_F22 h (F22_F8 f1)
  refine ⟨?_, Rel_G3 hr f⟩
  obtain ⟨q1, q2, q3, q4⟩ := F8_rd f1
  rw [q1, q2, q3, q4, ← vC_F22 (F22_F8 f1), ← Rel_n hr.1]
  by_cases e : 0 ≤ c ∧ c < σ1 1 1
  · rw [if_neg (fun q => q e), if_neg (fun q => q e)]
    refine setN_congr _ (fun d _ _ => so_rel hr hB1 (vEq_up hr.1.1 d (Or.inr (by omega))) (okV_up hr.1.2 d (Or.inr (by omega)) (by omega)) ?_)
    rw [jup_ne (by omega)]
    rfl
  · rw [if_pos e, if_pos e]
theorem o_chalks (h : Rel σ) (hB1 : jBd σ1) (h1 : (if ¬ (0 < σ 1 1) then -3 else setN (fun x => soN (jup (vC σ 1) 0 3 x) (σ 25) (σ 26) (σ 24 2).toNat) 10) = z1 ∧ F8 σ σ1) (h2 : (if ¬ (0 < σ1 36 2) then -3 else setN (fun x => soN (jup (vR σ1) 0 3 x) (σ1 59) (σ1 60) (σ1 36 33).toNat) 10) = z2 ∧ G3 σ1 σ2) : z1 = z2 ∧ Rel σ2 := by
  obtain ⟨rfl, f1⟩ := h1
  obtain ⟨rfl, f⟩ := h2
  have hr := Rel_F22 h (F22_F8 f1)
  refine ⟨?_, Rel_G3 hr f⟩
  obtain ⟨q1, q2, q3, q4⟩ := F8_rd f1
  rw [q1, q2, q3, q4, ← vC_F22 (F22_F8 f1), ← Rel_n hr.1]
  by_cases e : 0 < σ1 1 1
  · rw [if_neg (fun q => q e), if_neg (fun q => q e)]
    refine setN_congr _ (fun d _ _ => so_rel hr hB1 (vEq_up hr.1.1 d (Or.inl ⟨rfl, Or.inr rfl⟩)) (okV_up hr.1.2 d (Or.inl ⟨rfl, Or.inr rfl⟩) (by omega)) ?_)
    rw [jup_ne2 (by omega)]
    rfl
  · rw [if_pos e, if_pos e]
theorem o_odds (h : Rel σ) (h1 : (if ¬ ((0 ≤ c ∧ c < σ 1 1) ∧ 0 ≤ x ∧ x ≤ 1) then -9223372036854775808 else oddsM (vC σ 1) c x) = z1 ∧ F8 σ σ1) (h2 : (if ¬ ((0 ≤ c ∧ c < σ1 36 2) ∧ 0 ≤ x ∧ x ≤ 1) then -9223372036854775808 else oddsM (vR σ1) c x) = z2 ∧ G3 σ1 σ2) : z1 = z2 ∧ Rel σ2 := by
  obtain ⟨rfl, f1⟩ := h1
  obtain ⟨rfl, f⟩ := h2
  have hr := Rel_F22 h (F22_F8 f1)
  refine ⟨?_, Rel_G3 hr f⟩
  rw [show σ 1 1 = σ1 1 1 by rw [f1 1 (by omega)], ← vC_F22 (F22_F8 f1), ← Rel_n hr.1]
  by_cases e : (0 ≤ c ∧ c < σ1 1 1) ∧ 0 ≤ x ∧ x ≤ 1
  · rw [if_neg (fun q => q e), if_neg (fun q => q e)]; exact odds_c hr.1.1 hr.1.2 e.1
  · rw [if_pos e, if_pos e]
theorem o_trace (h : Rel σ) (h1 : σ 0 9 = z1 ∧ σ = σ1) (h2 : σ1 36 40 = z2 ∧ σ1 = σ2) : z1 = z2 ∧ Rel σ2 := by
  obtain ⟨rfl, rfl⟩ := h1
  obtain ⟨rfl, rfl⟩ := h2
  exact ⟨h.2.2.2.1, h⟩
theorem o_fault (h : Rel σ) (h1 : σ 0 10 = z1 ∧ σ = σ1) (h2 : σ1 36 0 = z2 ∧ σ1 = σ2) : z1 = z2 ∧ Rel σ2 := by
  obtain ⟨rfl, rfl⟩ := h1
  obtain ⟨rfl, rfl⟩ := h2
  exact ⟨h.2.2.2.2.1, h⟩
theorem o_many (h : Rel σ) (h1 : aMany (σ 1 0) (σ 1 1) (σ 1 2) (σ 1 3) (sumN (vC σ 1 1) (gM (vC σ 1))) (σ 24 2) (popM (starvM (vC σ 1))) x = z1 ∧ σ = σ1) (h2 : aMany (σ1 36 1) (σ1 36 2) (σ1 36 3) (σ1 36 4) (sumN (vR σ1 1) (gM (vR σ1))) (σ1 36 33) (popM (starvM (vR σ1))) x = z2 ∧ G3 σ1 σ2) : z1 = z2 ∧ Rel σ2 := by
  obtain ⟨rfl, rfl⟩ := h1
  obtain ⟨rfl, f⟩ := h2
  refine ⟨?_, Rel_G3 h f⟩
  rw [← Rel_n h.1, ← Rel_g h.1, ← Rel_m h.1, ← Rel_ch h.1, ← h.2.2.1.1, loaves_c h.1.1, starv_c h.1.1 h.1.2]
end
