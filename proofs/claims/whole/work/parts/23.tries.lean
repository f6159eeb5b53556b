/-! ===== the class's own methods that try things out ===== -/
def findUp (p : Int → Bool) : Nat → Int → Int
  | 0, _ => -9
  | k + 1, i => if p i = true then i else findUp p k (i + 1)
def argm (f : Int → Int) : Nat → Int
  | 0 => 0
  | v + 1 => if f ((v : Int) + 1) < f (argm f v) then (v : Int) + 1 else argm f v
theorem argm_b (f : Int → Int) (n : Nat) : 0 ≤ argm f n ∧ argm f n ≤ n := by
  induction n with
  | zero => simp [argm]
  | succ n ih =>
    simp only [argm]
    split <;> omega
theorem misM_b {v : jS} (h : wvB v) (t : Int) : 0 ≤ misM v t ∧ misM v t ≤ 12 := by
  have h1 : ∀ j, 0 ≤ heldF v t j ∧ heldF v t j ≤ 1 := fun j => by unfold heldF; split <;> omega
  have h2 : ∀ j, 0 ≤ unheldF v t j ∧ unheldF v t j ≤ 1 := fun j => by unfold unheldF; split <;> omega
  have a := sumN_b h1 (nM v)
  have b := sumN_b h2 (nM v)
  have c := h.2.1
  have d : nM v ≤ 6 := by unfold nM; omega
  unfold misM
  omega
def manC (v : jS) (m : Int) : Int := popM (starvM (jup v 0 2 m))
def gainM (v : jS) (c : Int) : Int := findUp (fun x => decide (eatsM v c < eatsM (jup v 4 c x) c)) (9 - v 4 c).toNat (v 4 c + 1)
def needsM (v : jS) (c : Int) : Int := findUp (fun x => decide (0 < eatsM (jup v 0 3 x) c)) 10 0
theorem jup_same {v : jS} {i : Nat} {j a b : Int} : jup (jup v i j a) i j b = jup v i j b := jup_jup v i j a b
theorem wvB_up {v : jS} (h : wvB v) {i : Nat} {j z : Int} (h0 : i = 0 → (j = 0 → 0 ≤ z ∧ z ≤ 3) ∧ (j = 1 → 0 ≤ z ∧ z ≤ 6) ∧ (j = 2 → 0 ≤ z ∧ z ≤ 2) ∧ (j = 3 → 0 ≤ z ∧ z ≤ 9)) (h1 : i = 1 → 0 ≤ z ∧ z ≤ 9) (h2 : i = 2 → 0 ≤ z ∧ z ≤ 2) (h3 : i = 3 → 0 ≤ z ∧ z ≤ 9) (h4 : i = 4 → 0 ≤ z ∧ z ≤ 9) (h5 : i = 5 → 0 ≤ z ∧ z ≤ 2) (h6 : i = 6 → 0 ≤ z ∧ z ≤ 9) : wvB (jup v i j z) := by
  obtain ⟨g1, g2, g3, g4, g5, g6, g7, g8, g9, g10⟩ := h
  have key : ∀ (k : Nat) (q lo hi : Int), (i = k → j = q → lo ≤ z ∧ z ≤ hi) → (lo ≤ v k q ∧ v k q ≤ hi) → lo ≤ jup v i j z k q ∧ jup v i j z k q ≤ hi := by
    intro k q lo hi hz hv
    unfold jup
    by_cases e : k = i
    · rw [if_pos e]
      by_cases e2 : q = j
      · rw [if_pos e2]; exact hz e.symm e2.symm
      · rw [if_neg e2]; exact hv
    · rw [if_neg e]; exact hv
  exact ⟨key 0 0 0 3 (fun a b => (h0 a).1 b) g1, key 0 1 0 6 (fun a b => (h0 a).2.1 b) g2, key 0 2 0 2 (fun a b => (h0 a).2.2.1 b) g3, key 0 3 0 9 (fun a b => (h0 a).2.2.2 b) g4, fun q => key 1 q 0 9 (fun a _ => h1 a) (g5 q), fun q => key 2 q 0 2 (fun a _ => h2 a) (g6 q), fun q => key 3 q 0 9 (fun a _ => h3 a) (g7 q), fun q => key 4 q 0 9 (fun a _ => h4 a) (g8 q), fun q => key 5 q 0 2 (fun a _ => h5 a) (g9 q), fun q => key 6 q 0 9 (fun a _ => h6 a) (g10 q)⟩
section
variable {P : jP} {a b c d g x y z n s i k l : Int} {σ τ v : jS}
set_option maxHeartbeats 4000000 in
theorem l_X8_best : ∀ (k i : Nat) (m d lo fe : Int), i + k = 30 → d = (i : Int) + 1 → lo = argm (misM (vC σ 1)) i → fe = misM (vC σ 1) lo → J P 4 (RX8, cX8_best, 5, some .int) 26 [some (vr P 0), some (vi lo), some (vi fe), some (vi d), none] [] σ (rI (argm (misM (vC σ 1)) 30) σ) := by
  intro k
  induction k with
  | zero =>
    intro i m d lo fe hi hd hl hf
    refine J_iload_n (i := 3) 27 dX8_best_26 rfl rfl rfl ?_
    refine J_bipush 29 dX8_best_27 rfl (by decide) ?_
    refine J_icmp_gt 59 32 dX8_best_29 rfl rfl (fun c1 => ?_) (fun c1 => ?_)
    · refine J_iload_n (i := 1) 60 dX8_best_59 rfl rfl rfl ?_
      have hab := argm_b (misM (vC σ 1)) i
      refine J_iret dX8_best_60 rfl ?_
      refine ⟨?_, rfl⟩
      rw [Nat.add_zero] at hi
      rw [hl, hi]
    · exfalso; omega
  | succ k ih =>
    intro i m d lo fe hi hd hl hf
    refine J.bd (fun hB => ?_)
    have hvB := vC_B hB (w := 1) (Or.inl rfl)
    have hab := argm_b (misM (vC σ 1)) i
    have hmb := misM_b hvB d
    have hfb := misM_b hvB lo
    have hst : argm (misM (vC σ 1)) (i + 1) = if misM (vC σ 1) d < fe then d else lo := by
      show (if _ < _ then _ else _) = _
      rw [hf, hl, hd]
    refine J_iload_n (i := 3) 27 dX8_best_26 rfl rfl rfl ?_
    refine J_bipush 29 dX8_best_27 rfl (by decide) ?_
    refine J_icmp_gt 59 32 dX8_best_29 rfl rfl (fun c1 => ?_) (fun c1 => ?_)
    · exfalso; omega
    · refine J_aload_n (i := 0) 33 dX8_best_32 rfl rfl rfl ?_
      refine J_getR 36 dX8_best_33 rfl fX8_14 rfl rfl ?_
      refine J_iload_n (i := 3) 37 dX8_best_36 rfl rfl rfl ?_
      refine J_callVi 40 dX8_best_37 rfl kX8_199 mX7_misheld rfl rfl rfl (c_X7_misheld) (by first | decide | omega) rfl rfl (Nat.le_of_ble_eq_true rfl) (fun z3 s4 h2 => ?_)
      obtain ⟨rfl, rfl⟩ := h2
      refine J_istore 42 dX8_best_40 rfl (by decide) ?_
      refine J_iload 44 dX8_best_42 rfl rfl ?_
      refine J_iload_n (i := 2) 45 dX8_best_44 rfl rfl rfl ?_
      refine J_icmp_ge 53 48 dX8_best_45 rfl rfl (fun c5 => ?_) (fun c5 => ?_)
      · refine J_iinc 56 dX8_best_53 rfl (by decide) rfl ?_
        refine J_goto 26 dX8_best_56 rfl ?_
        first
          | (rw [if_pos (by omega)] at hst; exact J.wk (ih (i + 1) 0 _ _ _ (by omega) (by omega) hst.symm rfl) ⟨rfl, rfl, rfl, rfl, trivial⟩)
          | (rw [if_neg (by omega)] at hst; exact J.wk (ih (i + 1) 0 (d + 1) lo fe (by omega) (by omega) hst.symm hf) ⟨rfl, rfl, rfl, rfl, trivial⟩)
      · refine J_iload 50 dX8_best_48 rfl rfl ?_
        refine J_istore_n (i := 2) 51 dX8_best_50 rfl rfl (by decide) ?_
        refine J_iload_n (i := 3) 52 dX8_best_51 rfl rfl rfl ?_
        refine J_istore_n (i := 1) 53 dX8_best_52 rfl rfl (by decide) ?_
        refine J_iinc 56 dX8_best_53 rfl (by decide) rfl ?_
        refine J_goto 26 dX8_best_56 rfl ?_
        first
          | (rw [if_pos (by omega)] at hst; exact J.wk (ih (i + 1) 0 _ _ _ (by omega) (by omega) hst.symm rfl) ⟨rfl, rfl, rfl, rfl, trivial⟩)
          | (rw [if_neg (by omega)] at hst; exact J.wk (ih (i + 1) 0 (d + 1) lo fe (by omega) (by omega) hst.symm hf) ⟨rfl, rfl, rfl, rfl, trivial⟩)
theorem c_X8_best : Ct P 4 yX8_best cX8_best 5 (some .int) [vr P 0] σ (rI (if ¬ 0 < σ 1 1 then -3 else argm (misM (vC σ 1)) 30) σ) := by
  refine Ct.of _ rfl rfl rfl (Nat.le_of_ble_eq_true rfl) (fun hB => ?_)
  refine J_aload_n (i := 0) 1 dX8_best_0 rfl rfl rfl ?_
  refine J_getR 4 dX8_best_1 rfl fX8_14 rfl rfl ?_
  refine J_callVi 7 dX8_best_4 rfl kX8_162 mX7_stands rfl rfl rfl (c_X7_stands) (by first | decide | omega) rfl rfl (Nat.le_of_ble_eq_true rfl) (fun z2 s3 h1 => ?_)
  obtain ⟨rfl, rfl⟩ := h1
  refine J_bif_ne 13 10 dX8_best_7 rfl rfl (fun c4 => ?_) (fun c4 => ?_)
  · refine J_iconst 14 dX8_best_13 rfl ?_
    refine J_istore_n (i := 1) 15 dX8_best_14 rfl rfl (by decide) ?_
    refine J_aload_n (i := 0) 16 dX8_best_15 rfl rfl rfl ?_
    refine J_getR 19 dX8_best_16 rfl fX8_14 rfl rfl ?_
    refine J_iconst 20 dX8_best_19 rfl ?_
    refine J_callVi 23 dX8_best_20 rfl kX8_199 mX7_misheld rfl rfl rfl (c_X7_misheld) (by first | decide | omega) rfl rfl (Nat.le_of_ble_eq_true rfl) (fun z6 s7 h5 => ?_)
    obtain ⟨rfl, rfl⟩ := h5
    refine J_istore_n (i := 2) 24 dX8_best_23 rfl rfl (by decide) ?_
    refine J_iconst 25 dX8_best_24 rfl ?_
    refine J_istore_n (i := 3) 26 dX8_best_25 rfl rfl (by decide) ?_
    rw [if_neg (by omega)]
    exact l_X8_best 30 0 0 _ _ _ rfl rfl rfl rfl
  · refine J_bipush 12 dX8_best_10 rfl (by decide) ?_
    refine J_iret dX8_best_12 rfl ?_
    exact ⟨if_pos (by omega), rfl⟩
theorem c_X8_starvingByManner (hx : 0 ≤ x ∧ x ≤ 2 := by omega) : Ct P 5 yX8_starvingByManner cX8_starvingByManner 2 (some .int) [vr P 0, vi x] σ (qi fun z σ' => manC (vC σ 1) x = z ∧ F8 σ σ') := by
  refine Ct.bd (fun hB => ?_)
  have hvB := vC_B hB (w := 1) (Or.inl rfl)
  have hb2 := wvB_up hvB (i := 0) (j := 2) (z := x) (fun _ => ⟨by omega, by omega, by omega, by omega⟩) (by omega) (by omega) (by omega) (by omega) (by omega) (by omega)
  have hsb := starvM_b hb2
  have e1 : vC (jup (jbec σ 8 1) 8 2 x) 8 = jup (vC σ 1) 0 2 x := by
    rw [show (8 : Nat) = 8 + 0 from rfl, vC_up _ _ _ _ _ (by omega)]
    exact congrArg (fun q => jup q 0 2 x) (vC_bec σ 8 1)
  refine Ct.of _ rfl rfl rfl (Nat.le_of_ble_eq_true rfl) (fun hB => ?_)
  refine J_aload_n (i := 0) 1 dX8_starvingByManner_0 rfl rfl rfl ?_
  refine J_getR 4 dX8_starvingByManner_1 rfl fX8_18 rfl rfl ?_
  refine J_aload_n (i := 0) 5 dX8_starvingByManner_4 rfl rfl rfl ?_
  refine J_getR 8 dX8_starvingByManner_5 rfl fX8_14 rfl rfl ?_
  refine J_callVv 11 dX8_starvingByManner_8 rfl kX8_96 mX7_become rfl rfl rfl (c_X7_become) (by first | decide | omega) rfl rfl (Nat.le_of_ble_eq_true rfl) (fun s3 h1 => ?_)
  obtain rfl := h1
  refine J_aload_n (i := 0) 12 dX8_starvingByManner_11 rfl rfl rfl ?_
  refine J_getR 15 dX8_starvingByManner_12 rfl fX8_18 rfl rfl ?_
  refine J_iload_n (i := 1) 16 dX8_starvingByManner_15 rfl rfl rfl ?_
  refine J_putI (jz := 2) (lo := 0) (hi := 2) 19 dX8_starvingByManner_16 rfl gX8_166 rfl rfl rfl rfl ?_
  refine J_aload_n (i := 0) 20 dX8_starvingByManner_19 rfl rfl rfl ?_
  refine J_getR 23 dX8_starvingByManner_20 rfl fX8_18 rfl rfl ?_
  refine J_callVi 26 dX8_starvingByManner_23 rfl kX8_134 mX7_starving rfl rfl rfl (c_X7_starving) (by first | decide | omega) rfl rfl (Nat.le_of_ble_eq_true rfl) (fun z5 s6 h4 => ?_)
  obtain ⟨rfl, rfl⟩ := h4
  refine J.top (congrArg starvM e1) ?_
  refine J_callSi 29 dX8_starvingByManner_26 rfl kX8_236 mJ6_bitCount_0f7a4 (c_J6_bitCount_0f7a4) (by first | decide | omega) rfl rfl (Nat.le_of_ble_eq_true rfl) (fun z8 s9 h7 => ?_)
  obtain ⟨rfl, rfl⟩ := h7
  refine J_iret dX8_starvingByManner_29 rfl ?_
  refine ⟨rfl, fun q hq => ?_⟩
  rw [← F8_bec σ q hq]
  funext j
  unfold jup
  rw [if_neg (by omega)]
theorem manC_b {v : jS} (h : wvB v) {m : Int} (hm : 0 ≤ m ∧ m ≤ 2) : 0 ≤ manC v m ∧ manC v m ≤ 6 := popM_b (starvM_b (wvB_up h (i := 0) (j := 2) (z := m) (fun _ => ⟨by omega, by omega, by omega, by omega⟩) (by omega) (by omega) (by omega) (by omega) (by omega) (by omega)))
theorem vC1_F8 {σ τ : jS} (h : F8 σ τ) : vC τ 1 = vC σ 1 := by
  funext i j
  unfold vC
  split
  · rw [h (1 + i) (by omega)]
  · rfl
theorem F8_trans {σ τ ρ : jS} (h : F8 σ τ) (h2 : F8 τ ρ) : F8 σ ρ := fun q hq => (h2 q hq).trans (h q hq)
set_option maxHeartbeats 4000000 in
theorem l_X8_mannerOfFewest (hvB : wvB (vC σ 1)) : ∀ (k i : Nat) (d lo fe : Int) (τ : jS), i + k = 2 → d = (i : Int) + 1 → lo = argm (manC (vC σ 1)) i → fe = manC (vC σ 1) lo → F8 σ τ → J P 6 (RX8, cX8_mannerOfFewest, 5, some .int) 10 [some (vr P 0), some (vi lo), some (vi fe), some (vi d), none] [] τ (qi fun z σ' => argm (manC (vC σ 1)) 2 = z ∧ F8 σ σ') := by
  intro k
  induction k with
  | zero =>
    intro i d lo fe τ hi hd hl hf hF
    refine J_iload_n (i := 3) 11 dX8_mannerOfFewest_10 rfl rfl rfl ?_
    refine J_iconst 12 dX8_mannerOfFewest_11 rfl ?_
    refine J_icmp_ge 39 15 dX8_mannerOfFewest_12 rfl rfl (fun c1 => ?_) (fun c1 => ?_)
    · refine J_iload_n (i := 1) 40 dX8_mannerOfFewest_39 rfl rfl rfl ?_
      refine J_iret dX8_mannerOfFewest_40 rfl ?_
      refine ⟨?_, hF⟩
      rw [Nat.add_zero] at hi
      rw [hl, hi]
    · exfalso; omega
  | succ k ih =>
    intro i d lo fe τ hi hd hl hf hF
    have hab := argm_b (manC (vC σ 1)) i
    have hmb := manC_b hvB (m := d) (by omega)
    have hfb := manC_b hvB (m := lo) (by omega)
    have hst : argm (manC (vC σ 1)) (i + 1) = if manC (vC σ 1) d < fe then d else lo := by
      show (if _ < _ then _ else _) = _
      rw [hf, hl, hd]
    refine J_iload_n (i := 3) 11 dX8_mannerOfFewest_10 rfl rfl rfl ?_
    refine J_iconst 12 dX8_mannerOfFewest_11 rfl ?_
    refine J_icmp_ge 39 15 dX8_mannerOfFewest_12 rfl rfl (fun c1 => ?_) (fun c1 => ?_)
    · exfalso; omega
    · refine J_aload_n (i := 0) 16 dX8_mannerOfFewest_15 rfl rfl rfl ?_
      refine J_iload_n (i := 3) 17 dX8_mannerOfFewest_16 rfl rfl rfl ?_
      refine J_callVi 20 dX8_mannerOfFewest_17 rfl kX8_202 mX8_starvingByManner rfl rfl rfl (c_X8_starvingByManner) (by first | decide | omega) rfl rfl (Nat.le_of_ble_eq_true rfl) (fun z3 s4 h2 => ?_)
      obtain ⟨rfl, f2⟩ := h2
      rw [vC1_F8 hF]
      have f3 := F8_trans hF f2
      refine J_istore 22 dX8_mannerOfFewest_20 rfl (by decide) ?_
      refine J_iload 24 dX8_mannerOfFewest_22 rfl rfl ?_
      refine J_iload_n (i := 2) 25 dX8_mannerOfFewest_24 rfl rfl rfl ?_
      refine J_icmp_ge 33 28 dX8_mannerOfFewest_25 rfl rfl (fun c5 => ?_) (fun c5 => ?_)
      · refine J_iinc 36 dX8_mannerOfFewest_33 rfl (by decide) rfl ?_
        refine J_goto 10 dX8_mannerOfFewest_36 rfl ?_
        first
          | (rw [if_pos (by omega)] at hst; exact J.wk (ih (i + 1) _ _ _ _ (by omega) (by omega) hst.symm rfl f3) ⟨rfl, rfl, rfl, rfl, trivial⟩)
          | (rw [if_neg (by omega)] at hst; exact J.wk (ih (i + 1) (d + 1) lo fe _ (by omega) (by omega) hst.symm hf f3) ⟨rfl, rfl, rfl, rfl, trivial⟩)
      · refine J_iload 30 dX8_mannerOfFewest_28 rfl rfl ?_
        refine J_istore_n (i := 2) 31 dX8_mannerOfFewest_30 rfl rfl (by decide) ?_
        refine J_iload_n (i := 3) 32 dX8_mannerOfFewest_31 rfl rfl rfl ?_
        refine J_istore_n (i := 1) 33 dX8_mannerOfFewest_32 rfl rfl (by decide) ?_
        refine J_iinc 36 dX8_mannerOfFewest_33 rfl (by decide) rfl ?_
        refine J_goto 10 dX8_mannerOfFewest_36 rfl ?_
        first
          | (rw [if_pos (by omega)] at hst; exact J.wk (ih (i + 1) _ _ _ _ (by omega) (by omega) hst.symm rfl f3) ⟨rfl, rfl, rfl, rfl, trivial⟩)
          | (rw [if_neg (by omega)] at hst; exact J.wk (ih (i + 1) (d + 1) lo fe _ (by omega) (by omega) hst.symm hf f3) ⟨rfl, rfl, rfl, rfl, trivial⟩)
theorem c_X8_mannerOfFewest : Ct P 6 yX8_mannerOfFewest cX8_mannerOfFewest 5 (some .int) [vr P 0] σ (qi fun z σ' => argm (manC (vC σ 1)) 2 = z ∧ F8 σ σ') := by
  refine Ct.bd (fun hB => ?_)
  have hvB := vC_B hB (w := 1) (Or.inl rfl)
  refine Ct.of _ rfl rfl rfl (Nat.le_of_ble_eq_true rfl) (fun hB => ?_)
  refine J_iconst 1 dX8_mannerOfFewest_0 rfl ?_
  refine J_istore_n (i := 1) 2 dX8_mannerOfFewest_1 rfl rfl (by decide) ?_
  refine J_aload_n (i := 0) 3 dX8_mannerOfFewest_2 rfl rfl rfl ?_
  refine J_iconst 4 dX8_mannerOfFewest_3 rfl ?_
  refine J_callVi 7 dX8_mannerOfFewest_4 rfl kX8_202 mX8_starvingByManner rfl rfl rfl (c_X8_starvingByManner) (by first | decide | omega) rfl rfl (Nat.le_of_ble_eq_true rfl) (fun z2 s3 h1 => ?_)
  obtain ⟨rfl, f2⟩ := h1
  refine J_istore_n (i := 2) 8 dX8_mannerOfFewest_7 rfl rfl (by decide) ?_
  refine J_iconst 9 dX8_mannerOfFewest_8 rfl ?_
  refine J_istore_n (i := 3) 10 dX8_mannerOfFewest_9 rfl rfl (by decide) ?_
  exact l_X8_mannerOfFewest hvB 2 0 _ _ _ _ rfl rfl rfl rfl f2
def aWithout (n : Int) (v : jS) (x : Int) : Int := if ¬ (0 ≤ x ∧ x ≤ 4) then -2 else if ¬ 0 < n then -3 else if x < 3 then manC v x else if x = 3 then manC v (argm (manC v) 2) else argm (manC v) 2
theorem c_X8_without (hx : inR x) : Ct P 7 yX8_without cX8_without 3 (some .int) [vr P 0, vi x] σ (qi fun z σ' => aWithout (σ 1 1) (vC σ 1) x = z ∧ F8 σ σ') := by
  have hab := argm_b (manC (vC σ 1)) 2
  refine Ct.of _ rfl rfl rfl (Nat.le_of_ble_eq_true rfl) (fun hB => ?_)
  refine J_iload_n (i := 1) 1 dX8_without_0 rfl rfl rfl ?_
  refine J_if_lt 9 4 dX8_without_1 rfl rfl (fun c1 => ?_) (fun c1 => ?_)
  · refine J_bipush 11 dX8_without_9 rfl (by decide) ?_
    refine J_iret dX8_without_11 rfl ?_
    exact ⟨if_pos (by omega), fun _ _ => rfl⟩
  · refine J_iload_n (i := 1) 5 dX8_without_4 rfl rfl rfl ?_
    refine J_iconst 6 dX8_without_5 rfl ?_
    refine J_icmp_le 12 9 dX8_without_6 rfl rfl (fun c2 => ?_) (fun c2 => ?_)
    · refine J_aload_n (i := 0) 13 dX8_without_12 rfl rfl rfl ?_
      refine J_getR 16 dX8_without_13 rfl fX8_14 rfl rfl ?_
      refine J_callVi 19 dX8_without_16 rfl kX8_162 mX7_stands rfl rfl rfl (c_X7_stands) (by first | decide | omega) rfl rfl (Nat.le_of_ble_eq_true rfl) (fun z4 s5 h3 => ?_)
      obtain ⟨rfl, rfl⟩ := h3
      refine J_bif_ne 25 22 dX8_without_19 rfl rfl (fun c6 => ?_) (fun c6 => ?_)
      · refine J_iload_n (i := 1) 26 dX8_without_25 rfl rfl rfl ?_
        refine J_iconst 27 dX8_without_26 rfl ?_
        refine J_icmp_ge 36 30 dX8_without_27 rfl rfl (fun c7 => ?_) (fun c7 => ?_)
        · refine J_aload_n (i := 0) 37 dX8_without_36 rfl rfl rfl ?_
          refine J_callVi 40 dX8_without_37 rfl kX8_205 mX8_mannerOfFewest rfl rfl rfl (c_X8_mannerOfFewest) (by first | decide | omega) rfl rfl (Nat.le_of_ble_eq_true rfl) (fun z9 s10 h8 => ?_)
          obtain ⟨rfl, f1⟩ := h8
          refine J_istore_n (i := 2) 41 dX8_without_40 rfl rfl (by decide) ?_
          refine J_iload_n (i := 1) 42 dX8_without_41 rfl rfl rfl ?_
          refine J_iconst 43 dX8_without_42 rfl ?_
          refine J_icmp_ne 54 46 dX8_without_43 rfl rfl (fun c11 => ?_) (fun c11 => ?_)
          · refine J_iload_n (i := 2) 55 dX8_without_54 rfl rfl rfl ?_
            refine J_iret dX8_without_55 rfl ?_
            first | (refine ⟨?_, F8_trans f1 f2⟩; unfold aWithout; rw [if_neg (by omega), if_neg (by omega), if_neg (by omega), if_pos (by omega)]; done) | (refine ⟨?_, f1⟩; unfold aWithout; rw [if_neg (by omega), if_neg (by omega), if_neg (by omega), if_neg (by omega)]; done)
          · refine J_aload_n (i := 0) 47 dX8_without_46 rfl rfl rfl ?_
            refine J_iload_n (i := 2) 48 dX8_without_47 rfl rfl rfl ?_
            refine J_callVi 51 dX8_without_48 rfl kX8_202 mX8_starvingByManner rfl rfl rfl (c_X8_starvingByManner) (by first | decide | omega) rfl rfl (Nat.le_of_ble_eq_true rfl) (fun z13 s14 h12 => ?_)
            obtain ⟨rfl, f2⟩ := h12
            rw [vC1_F8 f1]
            refine J_goto 55 dX8_without_51 rfl ?_
            refine J_iret dX8_without_55 rfl ?_
            first | (refine ⟨?_, F8_trans f1 f2⟩; unfold aWithout; rw [if_neg (by omega), if_neg (by omega), if_neg (by omega), if_pos (by omega)]; done) | (refine ⟨?_, f1⟩; unfold aWithout; rw [if_neg (by omega), if_neg (by omega), if_neg (by omega), if_neg (by omega)]; done)
        · refine J_aload_n (i := 0) 31 dX8_without_30 rfl rfl rfl ?_
          refine J_iload_n (i := 1) 32 dX8_without_31 rfl rfl rfl ?_
          refine J_callVi 35 dX8_without_32 rfl kX8_202 mX8_starvingByManner rfl rfl rfl (c_X8_starvingByManner) (by first | decide | omega) rfl rfl (Nat.le_of_ble_eq_true rfl) (fun z16 s17 h15 => ?_)
          obtain ⟨rfl, f1⟩ := h15
          refine J_iret dX8_without_35 rfl ?_
          refine ⟨?_, f1⟩
          unfold aWithout
          rw [if_neg (by omega), if_neg (by omega), if_pos (by omega)]
      · refine J_bipush 24 dX8_without_22 rfl (by decide) ?_
        refine J_iret dX8_without_24 rfl ?_
        refine ⟨?_, fun _ _ => rfl⟩
        unfold aWithout
        first | rfl | (rw [if_pos (by omega)]; done) | (rw [if_neg (by omega)]; done) | (rw [if_neg (by omega), if_pos (by omega)]; done) | (rw [if_neg (by omega), if_neg (by omega)]; done) | (rw [if_neg (by omega), if_neg (by omega), if_pos (by omega)]; done) | (rw [if_neg (by omega), if_neg (by omega), if_neg (by omega)]; done) | (rw [if_neg (by omega), if_neg (by omega), if_neg (by omega), if_pos (by omega)]; done) | (rw [if_neg (by omega), if_neg (by omega), if_neg (by omega), if_neg (by omega)]; done)
    · refine J_bipush 11 dX8_without_9 rfl (by decide) ?_
      refine J_iret dX8_without_11 rfl ?_
      exact ⟨if_pos (by omega), fun _ _ => rfl⟩
set_option maxHeartbeats 4000000 in
theorem l_X8_gain {had : Int} (hc : 0 ≤ c ∧ c < 6) (hh : had = eatsM (vC σ 1) c) (hvB : wvB (vC σ 1)) : ∀ (k : Nat) (d : Int) (τ : jS), d + k = 10 → 0 ≤ d → (∀ x, jup (vC τ 8) 4 c x = jup (vC σ 1) 4 c x) → F8 σ τ → J P 4 (RX8, cX8_gain, 4, some .int) 45 [some (vr P 0), some (vi c), some (vi had), some (vi d)] [] τ (qi fun z σ' => findUp (fun x => decide (eatsM (vC σ 1) c < eatsM (jup (vC σ 1) 4 c x) c)) k d = z ∧ F8 σ σ') := by
  have heb := eatsM_b hvB c
  intro k
  induction k with
  | zero =>
    intro d τ hd h0 hv hF
    refine J_iload_n (i := 3) 46 dX8_gain_45 rfl rfl rfl ?_
    refine J_bipush 48 dX8_gain_46 rfl (by decide) ?_
    refine J_icmp_gt 81 51 dX8_gain_48 rfl rfl (fun c1 => ?_) (fun c1 => ?_)
    · refine J_bipush 83 dX8_gain_81 rfl (by decide) ?_
      refine J_iret dX8_gain_83 rfl ?_
      exact ⟨rfl, hF⟩
    · exfalso; omega
  | succ k ih =>
    intro d τ hd h0 hv hF
    have e1 : vC (jup τ 12 c d) 8 = jup (vC σ 1) 4 c d := by rw [show (12 : Nat) = 8 + 4 from rfl, vC_up _ _ _ _ _ (by omega), hv]
    have hF2 : F8 σ (jup τ 12 c d) := fun q hq => by rw [← hF q hq]; funext j; unfold jup; rw [if_neg (by omega)]
    have hv2 : ∀ x, jup (vC (jup τ 12 c d) 8) 4 c x = jup (vC σ 1) 4 c x := fun x => by rw [e1, jup_same]
    by_cases hd9 : d ≤ 9
    · have hb2 := wvB_up hvB (i := 4) (j := c) (z := d) (by omega) (by omega) (by omega) (by omega) (by omega) (by omega) (by omega)
      have heb2 := eatsM_b hb2 c
      refine J_iload_n (i := 3) 46 dX8_gain_45 rfl rfl rfl ?_
      refine J_bipush 48 dX8_gain_46 rfl (by decide) ?_
      refine J_icmp_gt 81 51 dX8_gain_48 rfl rfl (fun c1 => ?_) (fun c1 => ?_)
      · exfalso; omega
      · refine J_aload_n (i := 0) 52 dX8_gain_51 rfl rfl rfl ?_
        refine J_getR 55 dX8_gain_52 rfl fX8_18 rfl rfl ?_
        refine J_getR 58 dX8_gain_55 rfl fX8_119 rfl rfl ?_
        refine J_iload_n (i := 1) 59 dX8_gain_58 rfl rfl rfl ?_
        refine J_iload_n (i := 3) 60 dX8_gain_59 rfl rfl rfl ?_
        refine J_iast (N := 6) (lo := 0) (hi := 9) 61 dX8_gain_60 rfl rfl rfl rfl ?_
        refine J_aload_n (i := 0) 62 dX8_gain_61 rfl rfl rfl ?_
        refine J_getR 65 dX8_gain_62 rfl fX8_18 rfl rfl ?_
        refine J_iload_n (i := 1) 66 dX8_gain_65 rfl rfl rfl ?_
        refine J_callVi 69 dX8_gain_66 rfl kX8_131 mX7_eats rfl rfl rfl (c_X7_eats) (by first | decide | omega) rfl rfl (Nat.le_of_ble_eq_true rfl) (fun z3 s4 h2 => ?_)
        obtain ⟨rfl, rfl⟩ := h2
        rw [e1]
        refine J_iload_n (i := 2) 70 dX8_gain_69 rfl rfl rfl ?_
        refine J_icmp_le 75 73 dX8_gain_70 rfl rfl (fun c5 => ?_) (fun c5 => ?_)
        · refine J_iinc 78 dX8_gain_75 rfl (by decide) rfl ?_
          refine J_goto 45 dX8_gain_78 rfl ?_
          simp only [findUp]
          rw [if_neg (by simp only [decide_eq_true_eq]; omega)]
          exact ih (d + 1) _ (by omega) (by omega) hv2 hF2
        · refine J_iload_n (i := 3) 74 dX8_gain_73 rfl rfl rfl ?_
          refine J_iret dX8_gain_74 rfl ?_
          refine ⟨?_, hF2⟩
          simp only [findUp]
          rw [if_pos (by simp only [decide_eq_true_eq]; omega)]
    · exfalso; omega
theorem c_X8_gain (hc : inR c) : Ct P 4 yX8_gain cX8_gain 4 (some .int) [vr P 0, vi c] σ (qi fun z σ' => (if ¬ (0 ≤ c ∧ c < σ 1 1) then -1 else gainM (vC σ 1) c) = z ∧ F8 σ σ') := by
  refine Ct.bd (fun hB => ?_)
  have hvB := vC_B hB (w := 1) (Or.inl rfl)
  have hn := vC_n hB (w := 1) (Or.inl rfl)
  have hs := hvB.2.2.2.2.2.2.2.1 c
  have hs2 : vC σ 1 4 c = σ 5 c := rfl
  refine Ct.of _ rfl rfl rfl (Nat.le_of_ble_eq_true rfl) (fun hB => ?_)
  refine J_aload_n (i := 0) 1 dX8_gain_0 rfl rfl rfl ?_
  refine J_getR 4 dX8_gain_1 rfl fX8_14 rfl rfl ?_
  refine J_iload_n (i := 1) 5 dX8_gain_4 rfl rfl rfl ?_
  refine J_callVi 8 dX8_gain_5 rfl kX8_109 mX7_hasComer rfl rfl rfl (c_X7_hasComer) (by first | decide | omega) rfl rfl (Nat.le_of_ble_eq_true rfl) (fun z2 s3 h1 => ?_)
  obtain ⟨rfl, rfl⟩ := h1
  refine J_bif_ne 13 11 dX8_gain_8 rfl rfl (fun c4 => ?_) (fun c4 => ?_)
  · refine J_aload_n (i := 0) 14 dX8_gain_13 rfl rfl rfl ?_
    refine J_getR 17 dX8_gain_14 rfl fX8_14 rfl rfl ?_
    refine J_iload_n (i := 1) 18 dX8_gain_17 rfl rfl rfl ?_
    refine J_callVi 21 dX8_gain_18 rfl kX8_131 mX7_eats rfl rfl rfl (c_X7_eats) (by first | decide | omega) rfl rfl (Nat.le_of_ble_eq_true rfl) (fun z6 s7 h5 => ?_)
    obtain ⟨rfl, rfl⟩ := h5
    refine J_istore_n (i := 2) 22 dX8_gain_21 rfl rfl (by decide) ?_
    refine J_aload_n (i := 0) 23 dX8_gain_22 rfl rfl rfl ?_
    refine J_getR 26 dX8_gain_23 rfl fX8_18 rfl rfl ?_
    refine J_aload_n (i := 0) 27 dX8_gain_26 rfl rfl rfl ?_
    refine J_getR 30 dX8_gain_27 rfl fX8_14 rfl rfl ?_
    refine J_callVv 33 dX8_gain_30 rfl kX8_96 mX7_become rfl rfl rfl (c_X7_become) (by first | decide | omega) rfl rfl (Nat.le_of_ble_eq_true rfl) (fun s10 h8 => ?_)
    obtain rfl := h8
    refine J_aload_n (i := 0) 34 dX8_gain_33 rfl rfl rfl ?_
    refine J_getR 37 dX8_gain_34 rfl fX8_14 rfl rfl ?_
    refine J_getR 40 dX8_gain_37 rfl fX8_119 rfl rfl ?_
    refine J_iload_n (i := 1) 41 dX8_gain_40 rfl rfl rfl ?_
    refine J_iald (N := 6) (lo := 0) (hi := 9) 42 dX8_gain_41 rfl rfl rfl rfl (fun b11 b12 => ?_)
    try simp +decide only [jup, jset, jbec, Nat.reduceLeDiff, Nat.reduceAdd, Nat.reduceSub, and_true, true_and, and_false, false_and, Nat.le_refl, and_self, ↓reduceIte] at b11 b12 ⊢
    refine J_iconst 43 dX8_gain_42 rfl ?_
    refine J_iadd 44 dX8_gain_43 rfl ?_
    refine J_istore_n (i := 3) 45 dX8_gain_44 rfl rfl (by decide) ?_
    rw [if_neg (by omega)]
    exact l_X8_gain (by omega) rfl hvB (9 - vC σ 1 4 c).toNat _ _ (by omega) (by omega) (fun x => by rw [vC_bec]) (F8_bec σ)
  · refine J_iconst 12 dX8_gain_11 rfl ?_
    refine J_iret dX8_gain_12 rfl ?_
    exact ⟨if_pos (by omega), fun _ _ => rfl⟩
set_option maxHeartbeats 4000000 in
theorem l_X8_needs (hc : 0 ≤ c ∧ c < 6) (hvB : wvB (vC σ 1)) : ∀ (k : Nat) (d : Int) (τ : jS), d + k = 10 → 0 ≤ d → (∀ x, jup (vC τ 8) 0 3 x = jup (vC σ 1) 0 3 x) → F8 σ τ → J P 4 (RX8, cX8_needs, 3, some .int) 26 [some (vr P 0), some (vi c), some (vi d)] [] τ (qi fun z σ' => findUp (fun x => decide (0 < eatsM (jup (vC σ 1) 0 3 x) c)) k d = z ∧ F8 σ σ') := by
  intro k
  induction k with
  | zero =>
    intro d τ hd h0 hv hF
    refine J_iload_n (i := 2) 27 dX8_needs_26 rfl rfl rfl ?_
    refine J_bipush 29 dX8_needs_27 rfl (by decide) ?_
    refine J_icmp_gt 59 32 dX8_needs_29 rfl rfl (fun c1 => ?_) (fun c1 => ?_)
    · refine J_bipush 61 dX8_needs_59 rfl (by decide) ?_
      refine J_iret dX8_needs_61 rfl ?_
      exact ⟨rfl, hF⟩
    · exfalso; omega
  | succ k ih =>
    intro d τ hd h0 hv hF
    have e1 : vC (jup τ 8 3 d) 8 = jup (vC σ 1) 0 3 d := (vC_up τ 8 0 3 d (by omega)).trans (hv d)
    have hF2 : F8 σ (jup τ 8 3 d) := fun q hq => by rw [← hF q hq]; funext j; unfold jup; rw [if_neg (by omega)]
    have hv2 : ∀ x, jup (vC (jup τ 8 3 d) 8) 0 3 x = jup (vC σ 1) 0 3 x := fun x => by rw [e1, jup_same]
    have hb2 := wvB_up hvB (i := 0) (j := 3) (z := d) (fun _ => ⟨by omega, by omega, by omega, by omega⟩) (by omega) (by omega) (by omega) (by omega) (by omega) (by omega)
    have heb2 := eatsM_b hb2 c
    refine J_iload_n (i := 2) 27 dX8_needs_26 rfl rfl rfl ?_
    refine J_bipush 29 dX8_needs_27 rfl (by decide) ?_
    refine J_icmp_gt 59 32 dX8_needs_29 rfl rfl (fun c1 => ?_) (fun c1 => ?_)
    · exfalso; omega
    · refine J_aload_n (i := 0) 33 dX8_needs_32 rfl rfl rfl ?_
      refine J_getR 36 dX8_needs_33 rfl fX8_18 rfl rfl ?_
      refine J_iload_n (i := 2) 37 dX8_needs_36 rfl rfl rfl ?_
      refine J_putI (jz := 3) (lo := 0) (hi := 9) 40 dX8_needs_37 rfl gX8_169 rfl rfl rfl rfl ?_
      refine J_aload_n (i := 0) 41 dX8_needs_40 rfl rfl rfl ?_
      refine J_getR 44 dX8_needs_41 rfl fX8_18 rfl rfl ?_
      refine J_iload_n (i := 1) 45 dX8_needs_44 rfl rfl rfl ?_
      refine J_callVi 48 dX8_needs_45 rfl kX8_131 mX7_eats rfl rfl rfl (c_X7_eats) (by first | decide | omega) rfl rfl (Nat.le_of_ble_eq_true rfl) (fun z3 s4 h2 => ?_)
      obtain ⟨rfl, rfl⟩ := h2
      rw [e1]
      refine J_if_le 53 51 dX8_needs_48 rfl rfl (fun c5 => ?_) (fun c5 => ?_)
      · refine J_iinc 56 dX8_needs_53 rfl (by decide) rfl ?_
        refine J_goto 26 dX8_needs_56 rfl ?_
        simp only [findUp]
        rw [if_neg (by simp only [decide_eq_true_eq]; omega)]
        exact ih (d + 1) _ (by omega) (by omega) hv2 hF2
      · refine J_iload_n (i := 2) 52 dX8_needs_51 rfl rfl rfl ?_
        refine J_iret dX8_needs_52 rfl ?_
        refine ⟨?_, hF2⟩
        simp only [findUp]
        rw [if_pos (by simp only [decide_eq_true_eq]; omega)]
theorem c_X8_needs (hc : inR c) : Ct P 4 yX8_needs cX8_needs 3 (some .int) [vr P 0, vi c] σ (qi fun z σ' => (if ¬ (0 ≤ c ∧ c < σ 1 1) then -1 else needsM (vC σ 1) c) = z ∧ F8 σ σ') := by
  refine Ct.bd (fun hB => ?_)
  have hvB := vC_B hB (w := 1) (Or.inl rfl)
  have hn := vC_n hB (w := 1) (Or.inl rfl)
  refine Ct.of _ rfl rfl rfl (Nat.le_of_ble_eq_true rfl) (fun hB => ?_)
  refine J_aload_n (i := 0) 1 dX8_needs_0 rfl rfl rfl ?_
  refine J_getR 4 dX8_needs_1 rfl fX8_14 rfl rfl ?_
  refine J_iload_n (i := 1) 5 dX8_needs_4 rfl rfl rfl ?_
  refine J_callVi 8 dX8_needs_5 rfl kX8_109 mX7_hasComer rfl rfl rfl (c_X7_hasComer) (by first | decide | omega) rfl rfl (Nat.le_of_ble_eq_true rfl) (fun z2 s3 h1 => ?_)
  obtain ⟨rfl, rfl⟩ := h1
  refine J_bif_ne 13 11 dX8_needs_8 rfl rfl (fun c4 => ?_) (fun c4 => ?_)
  · refine J_aload_n (i := 0) 14 dX8_needs_13 rfl rfl rfl ?_
    refine J_getR 17 dX8_needs_14 rfl fX8_18 rfl rfl ?_
    refine J_aload_n (i := 0) 18 dX8_needs_17 rfl rfl rfl ?_
    refine J_getR 21 dX8_needs_18 rfl fX8_14 rfl rfl ?_
    refine J_callVv 24 dX8_needs_21 rfl kX8_96 mX7_become rfl rfl rfl (c_X7_become) (by first | decide | omega) rfl rfl (Nat.le_of_ble_eq_true rfl) (fun s7 h5 => ?_)
    obtain rfl := h5
    refine J_iconst 25 dX8_needs_24 rfl ?_
    refine J_istore_n (i := 2) 26 dX8_needs_25 rfl rfl (by decide) ?_
    rw [if_neg (by omega)]
    exact l_X8_needs (by omega) hvB 10 0 _ rfl (by omega) (fun x => by rw [vC_bec]) (F8_bec σ)
  · refine J_iconst 12 dX8_needs_11 rfl ?_
    refine J_iret dX8_needs_12 rfl ?_
    exact ⟨if_pos (by omega), fun _ _ => rfl⟩
theorem pow_k {k : Int} (h : 0 ≤ k ∧ k ≤ 10) : 0 < (2 : Int) ^ k.toNat ∧ (2 : Int) ^ k.toNat ≤ 1024 := by
  have key : ∀ n : Fin 11, 0 < (2 : Int) ^ n.val ∧ (2 : Int) ^ n.val ≤ 1024 := by decide
  exact key ⟨k.toNat, by omega⟩
theorem setN_1024 (f : Int → Bool) {n : Nat} (h : n ≤ 10) : 0 ≤ setN f n ∧ setN f n ≤ 1023 := by
  have h1 := setN_b f n
  have h2 := pow_k (k := n) (by omega)
  rw [Int.toNat_natCast] at h2
  omega
set_option maxHeartbeats 4000000 in
theorem l_X8_kinds (hc : 0 ≤ c ∧ c < 6) (hvB : wvB (vC σ 1)) : ∀ (k i : Nat) (d r : Int) (τ : jS), i + k = 3 → d = i → r = setN (fun x => soN (jup (vC σ 1) 2 c x) (σ 25) (σ 26) (σ 24 2).toNat) i → (∀ x, jup (vC τ 8) 2 c x = jup (vC σ 1) 2 c x) → F8 σ τ → J P 5 (RX8, cX8_kinds, 4, some .int) 28 [some (vr P 0), some (vi c), some (vi r), some (vi d)] [] τ (qi fun z σ' => setN (fun x => soN (jup (vC σ 1) 2 c x) (σ 25) (σ 26) (σ 24 2).toNat) 3 = z ∧ F8 σ σ') := by
  intro k
  induction k with
  | zero =>
    intro i d r τ hi hd hr hv hF
    refine J_iload_n (i := 3) 29 dX8_kinds_28 rfl rfl rfl ?_
    refine J_iconst 30 dX8_kinds_29 rfl ?_
    refine J_icmp_gt 69 33 dX8_kinds_30 rfl rfl (fun c1 => ?_) (fun c1 => ?_)
    · refine J_iload_n (i := 2) 70 dX8_kinds_69 rfl rfl rfl ?_
      refine J_iret dX8_kinds_70 rfl ?_
      refine ⟨?_, hF⟩
      rw [Nat.add_zero] at hi
      rw [hr, hi]
    · exfalso; omega
  | succ k ih =>
    intro i d r τ hi hd hr hv hF
    have e1 : vC (jup τ 10 c d) 8 = jup (vC σ 1) 2 c d := (vC_up τ 8 2 c d (by omega)).trans (hv d)
    have hF2 : F8 σ (jup τ 10 c d) := fun q hq => by rw [← hF q hq]; funext j; unfold jup; rw [if_neg (by omega)]
    have hv2 : ∀ x, jup (vC (jup τ 10 c d) 8) 2 c x = jup (vC σ 1) 2 c x := fun x => by rw [e1, jup_same]
    have e24 := hF2 24 (by omega)
    have e25 := hF2 25 (by omega)
    have e26 := hF2 26 (by omega)
    have hp := pow_k (k := d) (by omega)
    have hsb := setN_1024 (fun x => soN (jup (vC σ 1) 2 c x) (σ 25) (σ 26) (σ 24 2).toNat) (n := i) (by omega)
    have hst : setN (fun x => soN (jup (vC σ 1) 2 c x) (σ 25) (σ 26) (σ 24 2).toNat) (i + 1) = if soN (jup (vC σ 1) 2 c d) (σ 25) (σ 26) (σ 24 2).toNat = true then ior r (2 ^ d.toNat) else r := by
      rw [hr, hd, Int.toNat_natCast, ior_pow (setN_b _ i)]
      rfl
    refine J_iload_n (i := 3) 29 dX8_kinds_28 rfl rfl rfl ?_
    refine J_iconst 30 dX8_kinds_29 rfl ?_
    refine J_icmp_gt 69 33 dX8_kinds_30 rfl rfl (fun c1 => ?_) (fun c1 => ?_)
    · exfalso; omega
    · refine J_aload_n (i := 0) 34 dX8_kinds_33 rfl rfl rfl ?_
      refine J_getR 37 dX8_kinds_34 rfl fX8_18 rfl rfl ?_
      refine J_getR 40 dX8_kinds_37 rfl fX8_112 rfl rfl ?_
      refine J_iload_n (i := 1) 41 dX8_kinds_40 rfl rfl rfl ?_
      refine J_iload_n (i := 3) 42 dX8_kinds_41 rfl rfl rfl ?_
      refine J_iast (N := 6) (lo := 0) (hi := 2) 43 dX8_kinds_42 rfl rfl rfl rfl ?_
      refine J_aload_n (i := 0) 44 dX8_kinds_43 rfl rfl rfl ?_
      refine J_getR 47 dX8_kinds_44 rfl fX8_59 rfl rfl ?_
      refine J_aload_n (i := 0) 48 dX8_kinds_47 rfl rfl rfl ?_
      refine J_getR 51 dX8_kinds_48 rfl fX8_18 rfl rfl ?_
      refine J_callVi 54 dX8_kinds_51 rfl kX8_244 mX3_areSoIn rfl rfl rfl (c_X3_areSoIn) (by first | decide | omega) rfl rfl (Nat.le_of_ble_eq_true rfl) (fun z3 s4 h2 => ?_)
      obtain ⟨rfl, rfl⟩ := h2
      rw [e1, e24, e25, e26]
      refine J_bif_eq 63 57 dX8_kinds_54 rfl rfl (fun c5 => ?_) (fun c5 => ?_)
      · refine J_iinc 66 dX8_kinds_63 rfl (by decide) rfl ?_
        refine J_goto 28 dX8_kinds_66 rfl ?_
        refine ih (i + 1) _ _ _ (by omega) (by omega) ?_ hv2 hF2
        rw [hst]
        first | (rw [if_pos (by assumption)]; done) | (rw [if_neg (by assumption)]; done)
      · refine J_iload_n (i := 2) 58 dX8_kinds_57 rfl rfl rfl ?_
        refine J_iconst 59 dX8_kinds_58 rfl ?_
        refine J_iload_n (i := 3) 60 dX8_kinds_59 rfl rfl rfl ?_
        refine J_ishl1 61 dX8_kinds_60 rfl ?_
        refine J_ior 62 dX8_kinds_61 rfl ?_
        refine J_istore_n (i := 2) 63 dX8_kinds_62 rfl rfl (by decide) ?_
        refine J_iinc 66 dX8_kinds_63 rfl (by decide) rfl ?_
        refine J_goto 28 dX8_kinds_66 rfl ?_
        refine ih (i + 1) _ _ _ (by omega) (by omega) ?_ hv2 hF2
        rw [hst]
        first | (rw [if_pos (by assumption)]; done) | (rw [if_neg (by assumption)]; done)
theorem c_X8_kinds (hc : inR c) : Ct P 5 yX8_kinds cX8_kinds 4 (some .int) [vr P 0, vi c] σ (qi fun z σ' => (if ¬ (0 ≤ c ∧ c < σ 1 1) then -1 else setN (fun x => soN (jup (vC σ 1) 2 c x) (σ 25) (σ 26) (σ 24 2).toNat) 3) = z ∧ F8 σ σ') := by
  refine Ct.bd (fun hB => ?_)
  have hvB := vC_B hB (w := 1) (Or.inl rfl)
  have hn := vC_n hB (w := 1) (Or.inl rfl)
  refine Ct.of _ rfl rfl rfl (Nat.le_of_ble_eq_true rfl) (fun hB => ?_)
  refine J_aload_n (i := 0) 1 dX8_kinds_0 rfl rfl rfl ?_
  refine J_getR 4 dX8_kinds_1 rfl fX8_14 rfl rfl ?_
  refine J_iload_n (i := 1) 5 dX8_kinds_4 rfl rfl rfl ?_
  refine J_callVi 8 dX8_kinds_5 rfl kX8_109 mX7_hasComer rfl rfl rfl (c_X7_hasComer) (by first | decide | omega) rfl rfl (Nat.le_of_ble_eq_true rfl) (fun z2 s3 h1 => ?_)
  obtain ⟨rfl, rfl⟩ := h1
  refine J_bif_ne 13 11 dX8_kinds_8 rfl rfl (fun c4 => ?_) (fun c4 => ?_)
  · refine J_aload_n (i := 0) 14 dX8_kinds_13 rfl rfl rfl ?_
    refine J_getR 17 dX8_kinds_14 rfl fX8_18 rfl rfl ?_
    refine J_aload_n (i := 0) 18 dX8_kinds_17 rfl rfl rfl ?_
    refine J_getR 21 dX8_kinds_18 rfl fX8_14 rfl rfl ?_
    refine J_callVv 24 dX8_kinds_21 rfl kX8_96 mX7_become rfl rfl rfl (c_X7_become) (by first | decide | omega) rfl rfl (Nat.le_of_ble_eq_true rfl) (fun s7 h5 => ?_)
    obtain rfl := h5
    refine J_iconst 25 dX8_kinds_24 rfl ?_
    refine J_istore_n (i := 2) 26 dX8_kinds_25 rfl rfl (by decide) ?_
    refine J_iconst 27 dX8_kinds_26 rfl ?_
    refine J_istore_n (i := 3) 28 dX8_kinds_27 rfl rfl (by decide) ?_
    rw [if_neg (by omega)]
    exact l_X8_kinds (by omega) hvB 3 0 _ _ _ (Nat.zero_add _) rfl rfl (fun x => by rw [vC_bec]) (F8_bec σ)
  · refine J_iconst 12 dX8_kinds_11 rfl ?_
    refine J_iret dX8_kinds_12 rfl ?_
    exact ⟨if_pos (by omega), fun _ _ => rfl⟩
set_option maxHeartbeats 4000000 in
theorem l_X8_shows (hc : 0 ≤ c ∧ c < 6) (hvB : wvB (vC σ 1)) : ∀ (k i : Nat) (d r : Int) (τ : jS), i + k = 10 → d = i → r = setN (fun x => soN (jup (vC σ 1) 4 c x) (σ 25) (σ 26) (σ 24 2).toNat) i → (∀ x, jup (vC τ 8) 4 c x = jup (vC σ 1) 4 c x) → F8 σ τ → J P 5 (RX8, cX8_shows, 4, some .int) 28 [some (vr P 0), some (vi c), some (vi r), some (vi d)] [] τ (qi fun z σ' => setN (fun x => soN (jup (vC σ 1) 4 c x) (σ 25) (σ 26) (σ 24 2).toNat) 10 = z ∧ F8 σ σ') := by
  intro k
  induction k with
  | zero =>
    intro i d r τ hi hd hr hv hF
    refine J_iload_n (i := 3) 29 dX8_shows_28 rfl rfl rfl ?_
    refine J_bipush 31 dX8_shows_29 rfl (by decide) ?_
    refine J_icmp_gt 70 34 dX8_shows_31 rfl rfl (fun c1 => ?_) (fun c1 => ?_)
    · refine J_iload_n (i := 2) 71 dX8_shows_70 rfl rfl rfl ?_
      refine J_iret dX8_shows_71 rfl ?_
      refine ⟨?_, hF⟩
      rw [Nat.add_zero] at hi
      rw [hr, hi]
    · exfalso; omega
  | succ k ih =>
    intro i d r τ hi hd hr hv hF
    have e1 : vC (jup τ 12 c d) 8 = jup (vC σ 1) 4 c d := (vC_up τ 8 4 c d (by omega)).trans (hv d)
    have hF2 : F8 σ (jup τ 12 c d) := fun q hq => by rw [← hF q hq]; funext j; unfold jup; rw [if_neg (by omega)]
    have hv2 : ∀ x, jup (vC (jup τ 12 c d) 8) 4 c x = jup (vC σ 1) 4 c x := fun x => by rw [e1, jup_same]
    have e24 := hF2 24 (by omega)
    have e25 := hF2 25 (by omega)
    have e26 := hF2 26 (by omega)
    have hp := pow_k (k := d) (by omega)
    have hsb := setN_1024 (fun x => soN (jup (vC σ 1) 4 c x) (σ 25) (σ 26) (σ 24 2).toNat) (n := i) (by omega)
    have hst : setN (fun x => soN (jup (vC σ 1) 4 c x) (σ 25) (σ 26) (σ 24 2).toNat) (i + 1) = if soN (jup (vC σ 1) 4 c d) (σ 25) (σ 26) (σ 24 2).toNat = true then ior r (2 ^ d.toNat) else r := by
      rw [hr, hd, Int.toNat_natCast, ior_pow (setN_b _ i)]
      rfl
    refine J_iload_n (i := 3) 29 dX8_shows_28 rfl rfl rfl ?_
    refine J_bipush 31 dX8_shows_29 rfl (by decide) ?_
    refine J_icmp_gt 70 34 dX8_shows_31 rfl rfl (fun c1 => ?_) (fun c1 => ?_)
    · exfalso; omega
    · refine J_aload_n (i := 0) 35 dX8_shows_34 rfl rfl rfl ?_
      refine J_getR 38 dX8_shows_35 rfl fX8_18 rfl rfl ?_
      refine J_getR 41 dX8_shows_38 rfl fX8_119 rfl rfl ?_
      refine J_iload_n (i := 1) 42 dX8_shows_41 rfl rfl rfl ?_
      refine J_iload_n (i := 3) 43 dX8_shows_42 rfl rfl rfl ?_
      refine J_iast (N := 6) (lo := 0) (hi := 9) 44 dX8_shows_43 rfl rfl rfl rfl ?_
      refine J_aload_n (i := 0) 45 dX8_shows_44 rfl rfl rfl ?_
      refine J_getR 48 dX8_shows_45 rfl fX8_59 rfl rfl ?_
      refine J_aload_n (i := 0) 49 dX8_shows_48 rfl rfl rfl ?_
      refine J_getR 52 dX8_shows_49 rfl fX8_18 rfl rfl ?_
      refine J_callVi 55 dX8_shows_52 rfl kX8_244 mX3_areSoIn rfl rfl rfl (c_X3_areSoIn) (by first | decide | omega) rfl rfl (Nat.le_of_ble_eq_true rfl) (fun z3 s4 h2 => ?_)
      obtain ⟨rfl, rfl⟩ := h2
      rw [e1, e24, e25, e26]
      refine J_bif_eq 64 58 dX8_shows_55 rfl rfl (fun c5 => ?_) (fun c5 => ?_)
      · refine J_iinc 67 dX8_shows_64 rfl (by decide) rfl ?_
        refine J_goto 28 dX8_shows_67 rfl ?_
        refine ih (i + 1) _ _ _ (by omega) (by omega) ?_ hv2 hF2
        rw [hst]
        first | (rw [if_pos (by assumption)]; done) | (rw [if_neg (by assumption)]; done)
      · refine J_iload_n (i := 2) 59 dX8_shows_58 rfl rfl rfl ?_
        refine J_iconst 60 dX8_shows_59 rfl ?_
        refine J_iload_n (i := 3) 61 dX8_shows_60 rfl rfl rfl ?_
        refine J_ishl1 62 dX8_shows_61 rfl ?_
        refine J_ior 63 dX8_shows_62 rfl ?_
        refine J_istore_n (i := 2) 64 dX8_shows_63 rfl rfl (by decide) ?_
        refine J_iinc 67 dX8_shows_64 rfl (by decide) rfl ?_
        refine J_goto 28 dX8_shows_67 rfl ?_
        refine ih (i + 1) _ _ _ (by omega) (by omega) ?_ hv2 hF2
        rw [hst]
        first | (rw [if_pos (by assumption)]; done) | (rw [if_neg (by assumption)]; done)
theorem c_X8_shows (hc : inR c) : Ct P 5 yX8_shows cX8_shows 4 (some .int) [vr P 0, vi c] σ (qi fun z σ' => (if ¬ (0 ≤ c ∧ c < σ 1 1) then -1 else setN (fun x => soN (jup (vC σ 1) 4 c x) (σ 25) (σ 26) (σ 24 2).toNat) 10) = z ∧ F8 σ σ') := by
  refine Ct.bd (fun hB => ?_)
  have hvB := vC_B hB (w := 1) (Or.inl rfl)
  have hn := vC_n hB (w := 1) (Or.inl rfl)
  refine Ct.of _ rfl rfl rfl (Nat.le_of_ble_eq_true rfl) (fun hB => ?_)
  refine J_aload_n (i := 0) 1 dX8_shows_0 rfl rfl rfl ?_
  refine J_getR 4 dX8_shows_1 rfl fX8_14 rfl rfl ?_
  refine J_iload_n (i := 1) 5 dX8_shows_4 rfl rfl rfl ?_
  refine J_callVi 8 dX8_shows_5 rfl kX8_109 mX7_hasComer rfl rfl rfl (c_X7_hasComer) (by first | decide | omega) rfl rfl (Nat.le_of_ble_eq_true rfl) (fun z2 s3 h1 => ?_)
  obtain ⟨rfl, rfl⟩ := h1
  refine J_bif_ne 13 11 dX8_shows_8 rfl rfl (fun c4 => ?_) (fun c4 => ?_)
  · refine J_aload_n (i := 0) 14 dX8_shows_13 rfl rfl rfl ?_
    refine J_getR 17 dX8_shows_14 rfl fX8_18 rfl rfl ?_
    refine J_aload_n (i := 0) 18 dX8_shows_17 rfl rfl rfl ?_
    refine J_getR 21 dX8_shows_18 rfl fX8_14 rfl rfl ?_
    refine J_callVv 24 dX8_shows_21 rfl kX8_96 mX7_become rfl rfl rfl (c_X7_become) (by first | decide | omega) rfl rfl (Nat.le_of_ble_eq_true rfl) (fun s7 h5 => ?_)
    obtain rfl := h5
    refine J_iconst 25 dX8_shows_24 rfl ?_
    refine J_istore_n (i := 2) 26 dX8_shows_25 rfl rfl (by decide) ?_
    refine J_iconst 27 dX8_shows_26 rfl ?_
    refine J_istore_n (i := 3) 28 dX8_shows_27 rfl rfl (by decide) ?_
    rw [if_neg (by omega)]
    exact l_X8_shows (by omega) hvB 10 0 _ _ _ (Nat.zero_add _) rfl rfl (fun x => by rw [vC_bec]) (F8_bec σ)
  · refine J_iconst 12 dX8_shows_11 rfl ?_
    refine J_iret dX8_shows_12 rfl ?_
    exact ⟨if_pos (by omega), fun _ _ => rfl⟩
set_option maxHeartbeats 4000000 in
theorem l_X8_chalks (hvB : wvB (vC σ 1)) : ∀ (k i : Nat) (d r : Int) (τ : jS), i + k = 10 → d = i → r = setN (fun x => soN (jup (vC σ 1) 0 3 x) (σ 25) (σ 26) (σ 24 2).toNat) i → (∀ x, jup (vC τ 8) 0 3 x = jup (vC σ 1) 0 3 x) → F8 σ τ → J P 5 (RX8, cX8_chalks, 3, some .int) 28 [some (vr P 0), some (vi r), some (vi d)] [] τ (qi fun z σ' => setN (fun x => soN (jup (vC σ 1) 0 3 x) (σ 25) (σ 26) (σ 24 2).toNat) 10 = z ∧ F8 σ σ') := by
  intro k
  induction k with
  | zero =>
    intro i d r τ hi hd hr hv hF
    refine J_iload_n (i := 2) 29 dX8_chalks_28 rfl rfl rfl ?_
    refine J_bipush 31 dX8_chalks_29 rfl (by decide) ?_
    refine J_icmp_gt 68 34 dX8_chalks_31 rfl rfl (fun c1 => ?_) (fun c1 => ?_)
    · refine J_iload_n (i := 1) 69 dX8_chalks_68 rfl rfl rfl ?_
      refine J_iret dX8_chalks_69 rfl ?_
      refine ⟨?_, hF⟩
      rw [Nat.add_zero] at hi
      rw [hr, hi]
    · exfalso; omega
  | succ k ih =>
    intro i d r τ hi hd hr hv hF
    have e1 : vC (jup τ 8 3 d) 8 = jup (vC σ 1) 0 3 d := (vC_up τ 8 0 3 d (by omega)).trans (hv d)
    have hF2 : F8 σ (jup τ 8 3 d) := fun q hq => by rw [← hF q hq]; funext j; unfold jup; rw [if_neg (by omega)]
    have hv2 : ∀ x, jup (vC (jup τ 8 3 d) 8) 0 3 x = jup (vC σ 1) 0 3 x := fun x => by rw [e1, jup_same]
    have e24 := hF2 24 (by omega)
    have e25 := hF2 25 (by omega)
    have e26 := hF2 26 (by omega)
    have hp := pow_k (k := d) (by omega)
    have hsb := setN_1024 (fun x => soN (jup (vC σ 1) 0 3 x) (σ 25) (σ 26) (σ 24 2).toNat) (n := i) (by omega)
    have hst : setN (fun x => soN (jup (vC σ 1) 0 3 x) (σ 25) (σ 26) (σ 24 2).toNat) (i + 1) = if soN (jup (vC σ 1) 0 3 d) (σ 25) (σ 26) (σ 24 2).toNat = true then ior r (2 ^ d.toNat) else r := by
      rw [hr, hd, Int.toNat_natCast, ior_pow (setN_b _ i)]
      rfl
    refine J_iload_n (i := 2) 29 dX8_chalks_28 rfl rfl rfl ?_
    refine J_bipush 31 dX8_chalks_29 rfl (by decide) ?_
    refine J_icmp_gt 68 34 dX8_chalks_31 rfl rfl (fun c1 => ?_) (fun c1 => ?_)
    · exfalso; omega
    · refine J_aload_n (i := 0) 35 dX8_chalks_34 rfl rfl rfl ?_
      refine J_getR 38 dX8_chalks_35 rfl fX8_18 rfl rfl ?_
      refine J_iload_n (i := 2) 39 dX8_chalks_38 rfl rfl rfl ?_
      refine J_putI (jz := 3) (lo := 0) (hi := 9) 42 dX8_chalks_39 rfl gX8_169 rfl rfl rfl rfl ?_
      refine J_aload_n (i := 0) 43 dX8_chalks_42 rfl rfl rfl ?_
      refine J_getR 46 dX8_chalks_43 rfl fX8_59 rfl rfl ?_
      refine J_aload_n (i := 0) 47 dX8_chalks_46 rfl rfl rfl ?_
      refine J_getR 50 dX8_chalks_47 rfl fX8_18 rfl rfl ?_
      refine J_callVi 53 dX8_chalks_50 rfl kX8_244 mX3_areSoIn rfl rfl rfl (c_X3_areSoIn) (by first | decide | omega) rfl rfl (Nat.le_of_ble_eq_true rfl) (fun z3 s4 h2 => ?_)
      obtain ⟨rfl, rfl⟩ := h2
      rw [e1, e24, e25, e26]
      refine J_bif_eq 62 56 dX8_chalks_53 rfl rfl (fun c5 => ?_) (fun c5 => ?_)
      · refine J_iinc 65 dX8_chalks_62 rfl (by decide) rfl ?_
        refine J_goto 28 dX8_chalks_65 rfl ?_
        refine ih (i + 1) _ _ _ (by omega) (by omega) ?_ hv2 hF2
        rw [hst]
        first | (rw [if_pos (by assumption)]; done) | (rw [if_neg (by assumption)]; done)
      · refine J_iload_n (i := 1) 57 dX8_chalks_56 rfl rfl rfl ?_
        refine J_iconst 58 dX8_chalks_57 rfl ?_
        refine J_iload_n (i := 2) 59 dX8_chalks_58 rfl rfl rfl ?_
        refine J_ishl1 60 dX8_chalks_59 rfl ?_
        refine J_ior 61 dX8_chalks_60 rfl ?_
        refine J_istore_n (i := 1) 62 dX8_chalks_61 rfl rfl (by decide) ?_
        refine J_iinc 65 dX8_chalks_62 rfl (by decide) rfl ?_
        refine J_goto 28 dX8_chalks_65 rfl ?_
        refine ih (i + 1) _ _ _ (by omega) (by omega) ?_ hv2 hF2
        rw [hst]
        first | (rw [if_pos (by assumption)]; done) | (rw [if_neg (by assumption)]; done)
theorem c_X8_chalks : Ct P 5 yX8_chalks cX8_chalks 3 (some .int) [vr P 0] σ (qi fun z σ' => (if ¬ (0 < σ 1 1) then -3 else setN (fun x => soN (jup (vC σ 1) 0 3 x) (σ 25) (σ 26) (σ 24 2).toNat) 10) = z ∧ F8 σ σ') := by
  refine Ct.bd (fun hB => ?_)
  have hvB := vC_B hB (w := 1) (Or.inl rfl)
  have hn := vC_n hB (w := 1) (Or.inl rfl)
  refine Ct.of _ rfl rfl rfl (Nat.le_of_ble_eq_true rfl) (fun hB => ?_)
  refine J_aload_n (i := 0) 1 dX8_chalks_0 rfl rfl rfl ?_
  refine J_getR 4 dX8_chalks_1 rfl fX8_14 rfl rfl ?_
  refine J_callVi 7 dX8_chalks_4 rfl kX8_162 mX7_stands rfl rfl rfl (c_X7_stands) (by first | decide | omega) rfl rfl (Nat.le_of_ble_eq_true rfl) (fun z2 s3 h1 => ?_)
  obtain ⟨rfl, rfl⟩ := h1
  refine J_bif_ne 13 10 dX8_chalks_7 rfl rfl (fun c4 => ?_) (fun c4 => ?_)
  · refine J_aload_n (i := 0) 14 dX8_chalks_13 rfl rfl rfl ?_
    refine J_getR 17 dX8_chalks_14 rfl fX8_18 rfl rfl ?_
    refine J_aload_n (i := 0) 18 dX8_chalks_17 rfl rfl rfl ?_
    refine J_getR 21 dX8_chalks_18 rfl fX8_14 rfl rfl ?_
    refine J_callVv 24 dX8_chalks_21 rfl kX8_96 mX7_become rfl rfl rfl (c_X7_become) (by first | decide | omega) rfl rfl (Nat.le_of_ble_eq_true rfl) (fun s7 h5 => ?_)
    obtain rfl := h5
    refine J_iconst 25 dX8_chalks_24 rfl ?_
    refine J_istore_n (i := 1) 26 dX8_chalks_25 rfl rfl (by decide) ?_
    refine J_iconst 27 dX8_chalks_26 rfl ?_
    refine J_istore_n (i := 2) 28 dX8_chalks_27 rfl rfl (by decide) ?_
    rw [if_neg (by omega)]
    exact l_X8_chalks hvB 10 0 _ _ _ (Nat.zero_add _) rfl rfl (fun x => by rw [vC_bec]) (F8_bec σ)
  · refine J_bipush 12 dX8_chalks_10 rfl (by decide) ?_
    refine J_iret dX8_chalks_12 rfl ?_
    exact ⟨if_pos (by omega), fun _ _ => rfl⟩
end

