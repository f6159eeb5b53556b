/-! ===== the reference reads a text ===== -/
def cdM (f : Int → Int) (a n p : Int) : Int := if p < n then f (a + p) else -9
def upV2 (s : Int) (V : jS) (z : Int) : jS := if s = 2 then jup (jup V 1 (V 0 0) z) 0 0 (V 0 0 + 1) else if s = 8 then jup (jup V 6 (V 0 1) z) 0 1 (V 0 1 + 1) else jup V (s - 2).toNat (V 0 1) z
def RF (σ τ : jS) : Prop := (∀ q, q ≠ 36 → (q < 44 ∨ 49 < q) → τ q = σ q) ∧ ∀ j, j ≠ 12 → j ≠ 13 → j ≠ 14 → τ 36 j = σ 36 j
theorem RF_refl (σ : jS) : RF σ σ := ⟨fun _ _ _ => rfl, fun _ _ _ _ => rfl⟩
theorem RF_trans {σ τ ρ : jS} (h : RF σ τ) (g : RF τ ρ) : RF σ ρ := ⟨fun q a b => (g.1 q a b).trans (h.1 q a b), fun j a b c => (g.2 j a b c).trans (h.2 j a b c)⟩
theorem RF_up {σ : jS} {K : Nat} {J z : Int} (h : (44 ≤ K ∧ K ≤ 49) ∨ (K = 36 ∧ (J = 12 ∨ J = 13 ∨ J = 14))) : RF σ (jup σ K J z) := by
  refine ⟨fun q a b => jup_ne (by omega), fun j a b c => ?_⟩
  by_cases e : K = 36
  · subst e; exact jup_ne2 (by omega)
  · rw [jup_ne (by omega)]
theorem RF_12 {σ τ : jS} (h1 : ∀ q, q ≠ 36 → τ q = σ q) (h2 : ∀ j, j ≠ 12 → τ 36 j = σ 36 j) : RF σ τ := ⟨fun q a _ => h1 q a, fun j a _ _ => h2 j a⟩
def rvp (V τ : jS) (t : Nat) : Prop := V 0 0 = τ 36 13 ∧ V 0 1 = τ 36 14 ∧ V 0 2 = 0 ∧ V 0 3 = 1 ∧ (∀ j, 0 ≤ j → j < V 0 0 → V 1 j = τ 44 j) ∧ (∀ r : Nat, 2 ≤ r → r ≤ 6 → ∀ j, 0 ≤ j → (j < V 0 1 ∨ (j = V 0 1 ∧ r < t)) → V r j = τ (43 + r) j ∧ 0 ≤ V r j) ∧ ∀ j, 0 ≤ j → (j < V 0 1 ∨ (j = V 0 1 ∧ 5 < t)) → V 5 j < V 0 0
theorem rvp_12 {V τ τ1 : jS} {t : Nat} (h : rvp V τ t) (h1 : ∀ q, q ≠ 36 → τ1 q = τ q) (h2 : ∀ j, j ≠ 12 → τ1 36 j = τ 36 j) : rvp V τ1 t := by
  obtain ⟨a1, a2, a3, a4, a5, a6, a7⟩ := h
  refine ⟨by rw [h2 13 (by omega)]; exact a1, by rw [h2 14 (by omega)]; exact a2, a3, a4, fun j x y => by rw [h1 44 (by omega)]; exact a5 j x y, fun r x y j z w => by rw [h1 (43 + r) (by omega)]; exact a6 r x y j z w, a7⟩
theorem rvp_row {V τ : jS} {t : Nat} {z : Int} (h : rvp V τ t) (ht : 2 ≤ t ∧ t ≤ 6) (hz : 0 ≤ z) (h5 : t = 5 → z < V 0 0) : rvp (jup V t (V 0 1) z) (jup τ (43 + t) (V 0 1) z) (t + 1) := by
  obtain ⟨a1, a2, a3, a4, a5, a6, a7⟩ := h
  have e0 : ∀ i, jup V t (V 0 1) z 0 i = V 0 i := fun i => by rw [jup_ne (by omega)]
  refine ⟨by rw [e0, jup_ne (by omega)]; exact a1, by rw [e0, jup_ne (by omega)]; exact a2, by rw [e0]; exact a3, by rw [e0]; exact a4, fun j x y => ?_, fun r x y j z2 w => ?_, fun j x w => ?_⟩
  · rw [jup_ne (by omega), jup_ne (by omega)]
    rw [e0] at y
    exact a5 j x y
  · rw [e0] at w
    by_cases e : r = t
    · subst e
      by_cases e2 : j = V 0 1
      · subst e2; rw [jup_at, jup_at]; exact ⟨rfl, hz⟩
      · rw [jup_ne2 e2, jup_ne2 e2]; exact a6 r x y j z2 (by omega)
    · rw [jup_ne e, jup_ne (by omega)]; exact a6 r x y j z2 (by omega)
  · rw [e0] at w
    rw [e0]
    by_cases e : t = 5
    · subst e
      by_cases e2 : j = V 0 1
      · subst e2; rw [jup_at]; exact h5 rfl
      · rw [jup_ne2 e2]; exact a7 j x (by omega)
    · rw [jup_ne (by omega)]; exact a7 j x (by omega)
theorem rvp_end {V τ : jS} (h : rvp V τ 7) : rvp (jup V 0 1 (V 0 1 + 1)) (jup τ 36 14 (V 0 1 + 1)) 2 := by
  obtain ⟨a1, a2, a3, a4, a5, a6, a7⟩ := h
  refine ⟨by rw [jup_ne2 (by omega), jup_ne2 (by omega)]; exact a1, by rw [jup_at, jup_at], by rw [jup_ne2 (by omega)]; exact a3, by rw [jup_ne2 (by omega)]; exact a4, fun j x y => ?_, fun r x y j z2 w => ?_, fun j x w => ?_⟩
  · rw [jup_ne (by omega), jup_ne (by omega)]
    rw [jup_ne2 (by omega)] at y
    exact a5 j x y
  · rw [jup_at] at w
    rw [jup_ne (by omega), jup_ne (by omega)]
    exact a6 r x y j z2 (by omega)
  · rw [jup_at] at w
    rw [jup_ne (by omega), jup_ne2 (by omega)]
    exact a7 j x (by omega)
theorem rvp_gate {V τ : jS} {z : Int} (h : rvp V τ 2) (h1 : V 0 1 = 0) : rvp (jup (jup V 1 (V 0 0) z) 0 0 (V 0 0 + 1)) (jup (jup τ 44 (V 0 0) z) 36 13 (V 0 0 + 1)) 2 := by
  obtain ⟨a1, a2, a3, a4, a5, a6, a7⟩ := h
  refine ⟨by rw [jup_at, jup_at], by rw [jup_ne2 (by omega), jup_ne2 (by omega), jup_ne (by omega), jup_ne (by omega)]; exact a2, by rw [jup_ne2 (by omega), jup_ne (by omega)]; exact a3, by rw [jup_ne2 (by omega), jup_ne (by omega)]; exact a4, fun j x y => ?_, fun r x y j z2 w => ?_, fun j x w => ?_⟩
  · rw [jup_at] at y
    rw [jup_ne (show (1 : Nat) ≠ 0 by omega), jup_ne (show (44 : Nat) ≠ 36 by omega)]
    by_cases e : j = V 0 0
    · subst e; rw [jup_at, jup_at]
    · rw [jup_ne2 e, jup_ne2 e]; exact a5 j x (by omega)
  · rw [jup_ne2 (by omega), jup_ne (by omega)] at w
    omega
  · rw [jup_ne2 (by omega), jup_ne (by omega)] at w
    omega
theorem pE_step {f : Int → Int} {a : Int} {v0 V V' : jS} {p : Nat} {s s' : Int} (h : pE f a v0 p = (-1, s, V)) (hs : pS s (f (a + p)) V = (s', V')) (hn : s' ≠ -1) : pE f a v0 (p + 1) = (-1, s', V') := by
  simp only [pE]
  rw [h]
  show (if ¬ (-1 : Int) = -1 then _ else if (pS s (f (a + p)) V).1 = -1 then _ else (-1, (pS s (f (a + p)) V).1, (pS s (f (a + p)) V).2)) = _
  rw [hs, if_neg (fun h => h rfl), if_neg hn]
theorem rd_err {f : Int → Int} {a : Int} {v0 V : jS} {p N : Nat} {s : Int} (h : pE f a v0 p = (-1, s, V)) (hs : (pS s (f (a + p)) V).1 = -1) (hp : p < N) : readR f a v0 N = p := by
  have e : (pE f a v0 (p + 1)).1 = p := by
    simp only [pE]
    rw [h]
    show (if ¬ (-1 : Int) = -1 then _ else if (pS s (f (a + p)) V).1 = -1 then ((p : Int), _) else _).1 = _
    rw [if_neg (fun h => h rfl), if_pos hs]
  have e2 := pE_stop (p := p + 1) (by rw [e]; omega) N (by omega)
  unfold readR
  rw [e2, e, if_pos (by omega)]
theorem rd_end {f : Int → Int} {a : Int} {v0 V : jS} {N : Nat} {s : Int} (h : pE f a v0 N = (-1, s, V)) (hs : s ≠ 9) : readR f a v0 N = N := by
  unfold readR
  rw [h]
  show (if ¬ (-1 : Int) = -1 then _ else if s = 9 then _ else (N : Int)) = _
  rw [if_neg (fun h => h rfl), if_neg hs]
theorem rd_ok {f : Int → Int} {a : Int} {v0 V : jS} {N : Nat} (h : pE f a v0 N = (-1, 9, V)) : readR f a v0 N = -9 := by
  unfold readR
  rw [h]
  show (if ¬ (-1 : Int) = -1 then _ else if (9 : Int) = 9 then (-9 : Int) else _) = _
  rw [if_neg (fun h => h rfl), if_pos rfl]
/-- at a place where the text goes on or is wrong: either it goes on, or it is wrong there -/
theorem rd_stop {f : Int → Int} {a : Int} {v0 V : jS} {p N : Nat} {s : Int} (h : pE f a v0 p = (-1, s, V)) (hp : p ≤ N) (hs : s ≠ 9) (he : p < N → (pS s (f (a + p)) V).1 = -1) : readR f a v0 N = p := by
  by_cases e : p < N
  · exact rd_err h (he e) e
  · have eN : N = p := by omega
    subst eN
    exact rd_end h hs
theorem digM_ge (x : Int) : (0 ≤ digM x ∧ 48 ≤ x ∧ x ≤ 57 ∧ digM x = x - 48) ∨ (digM x = -1 ∧ ¬ (48 ≤ x ∧ x ≤ 57)) := by
  unfold digM
  by_cases h : 48 ≤ x ∧ x ≤ 57
  · rw [if_pos h]; omega
  · rw [if_neg h]; omega
theorem fig_math {f : Int → Int} {a : Int} {v0 V : jS} {p N : Nat} {s m : Int} (hs : s = 2 ∨ (5 ≤ s ∧ s ≤ 8)) (h : pE f a v0 p = (-1, s, V)) (hp : p ≤ N) (hc : s ≠ 2 → V 0 1 < 6) (hg : s = 2 → V 0 0 < 3) (hm : m = if s = 7 then V 0 0 - 1 else 9) (hm9 : m ≤ 9) : (48 ≤ cdM f a N p ∧ cdM f a N p ≤ 48 + m → p < N ∧ pE f a v0 (p + 1) = (-1, s + 1, upV2 s V (cdM f a N p - 48))) ∧ (¬ (48 ≤ cdM f a N p ∧ cdM f a N p ≤ 48 + m) → readR f a v0 N = p) := by
  have hcd : p < N → cdM f a N p = f (a + p) := fun h => by unfold cdM; rw [if_pos (by omega)]
  have hcn : ¬ p < N → cdM f a N p = -9 := fun h => by unfold cdM; rw [if_neg (by omega)]
  have hd := digM_ge (f (a + p))
  have hpS : pS s (f (a + p)) V = if s = 2 then (if digM (f (a + p)) < 0 ∨ 3 ≤ V 0 0 then (-1, V) else (3, jup (jup V 1 (V 0 0) (digM (f (a + p)))) 0 0 (V 0 0 + 1))) else comS s (f (a + p)) V (digM (f (a + p))) := by
    unfold pS
    rw [if_neg (by omega), if_neg (by omega)]
    by_cases e : s = 2
    · rw [if_pos e, if_pos e]
    · rw [if_neg e, if_neg e, if_neg (by omega), if_neg (by omega), if_neg (by omega)]
  constructor
  · intro hk
    have hpN : p < N := by
      by_cases e : p < N
      · exact e
      · rw [hcn e] at hk; omega
    refine ⟨hpN, ?_⟩
    rw [hcd hpN] at hk ⊢
    have hdv : digM (f (a + p)) = f (a + p) - 48 := by omega
    refine pE_step h ?_ (by omega)
    rw [hpS]
    unfold upV2
    by_cases e : s = 2
    · have := hg e
      rw [if_pos e, if_pos e, if_neg (by omega), hdv, e]
      rfl
    · have := hc e
      rw [if_neg e, if_neg e]
      unfold comS
      rw [if_neg (by
        by_cases e7 : s = 7
        · rw [if_pos e7] at hm; omega
        · omega), hdv]
  · intro hk
    refine rd_stop h hp (by omega) (fun hpN => ?_)
    rw [hcd hpN] at hk
    rw [hpS]
    by_cases e : s = 2
    · rw [if_neg (by omega)] at hm
      rw [if_pos e, if_pos (by omega)]
    · rw [if_neg e]
      unfold comS
      by_cases e7 : s = 7
      · rw [if_pos e7] at hm
        rw [if_pos (by omega)]
      · rw [if_neg e7] at hm
        rw [if_pos (by omega)]
def figQ (τ : jS) (f : Int → Int) (a : Int) (v0 : jS) (N p : Nat) (s m : Int) (V : jS) (r : Int) (τ1 : jS) : Prop := (∀ q, q ≠ 36 → τ1 q = τ q) ∧ (∀ j, j ≠ 12 → τ1 36 j = τ 36 j) ∧ ((0 ≤ r ∧ r ≤ m ∧ p < N ∧ τ1 36 12 = p + 1 ∧ pE f a v0 (p + 1) = (-1, s + 1, upV2 s V r)) ∨ (r = -9 ∧ τ1 36 12 = p ∧ readR f a v0 N = p))
theorem fig_q {f : Int → Int} {a : Int} {v0 V τ τ1 : jS} {p N : Nat} {s m r : Int} (hs : s = 2 ∨ (5 ≤ s ∧ s ≤ 8)) (h : pE f a v0 p = (-1, s, V)) (hp : p ≤ N) (hc : s ≠ 2 → V 0 1 < 6) (hg : s = 2 → V 0 0 < 3) (hm : m = if s = 7 then V 0 0 - 1 else 9) (hm9 : m ≤ 9) (e63 : τ 63 = f) (e12 : τ 36 12 = p) (hq : (if 48 ≤ cdM (τ 63) a N (τ 36 12) ∧ cdM (τ 63) a N (τ 36 12) ≤ 48 + m then cdM (τ 63) a N (τ 36 12) - 48 else -9) = r ∧ (if 48 ≤ cdM (τ 63) a N (τ 36 12) ∧ cdM (τ 63) a N (τ 36 12) ≤ 48 + m then jup τ 36 12 (τ 36 12 + 1) else τ) = τ1) : figQ τ f a v0 N p s m V r τ1 := by
  have hf := fig_math hs h hp hc hg hm hm9
  rw [e63, e12] at hq
  obtain ⟨h1, h2⟩ := hq
  by_cases e : 48 ≤ cdM f a N p ∧ cdM f a N p ≤ 48 + m
  · rw [if_pos e] at h1 h2
    have h3 := hf.1 e
    subst h2
    refine ⟨fun q a => jup_ne a, fun j a => jup_ne2 a, Or.inl ⟨by omega, by omega, h3.1, jup_at _ _ _ _, ?_⟩⟩
    rw [← h1]
    exact h3.2
  · rw [if_neg e] at h1 h2
    subst h2
    exact ⟨fun _ _ => rfl, fun _ _ => rfl, Or.inr ⟨h1.symm, e12, hf.2 e⟩⟩
theorem wr48 {x m : Int} (hx : inR x) (hm : m ≤ 9) : ((0 ≤ wr (x - 48) ∧ wr (x - 48) ≤ m) ↔ (48 ≤ x ∧ x ≤ 48 + m)) ∧ (48 ≤ x → wr (x - 48) = x - 48) := by
  have h1 := wr_b (x - 48)
  have h2 : wr (x - 48) % 4294967296 = (x - 48) % 4294967296 := by unfold wr; exact Int.bmod_emod
  constructor
  · constructor
    · intro h; omega
    · intro h; omega
  · intro h; omega
section
variable {P : jP} {w o : Nat} {a b c d g x y z n s i j k l m : Int} {σ τ v : jS}
theorem c_X9_codeAt (ha : 0 ≤ a ∧ a + n ≤ 240) (hn : 0 ≤ n ∧ n ≤ 60) : Ct P 1 yX9_codeAt cX9_codeAt 3 (some .int) [vr P 36, vi a, vi n] σ (rI (cdM (σ 63) a n (σ 36 12)) σ) := by
  refine Ct.of _ rfl rfl rfl (Nat.le_of_ble_eq_true rfl) (fun hB => ?_)
  refine J_aload_n (i := 0) 1 dX9_codeAt_0 rfl rfl rfl ?_
  refine J_getI (jz := 12) (lo := 0) (hi := 60) 4 dX9_codeAt_1 rfl fX9_114 rfl rfl rfl rfl (fun b1 b2 => ?_)
  refine J_iload_n (i := 2) 5 dX9_codeAt_4 rfl rfl rfl ?_
  refine J_icmp_ge 22 8 dX9_codeAt_5 rfl rfl (fun c3 => ?_) (fun c3 => ?_)
  · refine J_bipush 24 dX9_codeAt_22 rfl (by decide) ?_
    refine J_iret dX9_codeAt_24 rfl ?_
    refine ⟨?_, rfl⟩
    unfold cdM
    first | (rw [if_pos (by omega)]; done) | (rw [if_neg (by omega)]; done)
  · refine J_aload_n (i := 0) 9 dX9_codeAt_8 rfl rfl rfl ?_
    refine J_getR 12 dX9_codeAt_9 rfl fX9_88 rfl rfl ?_
    refine J_iload_n (i := 1) 13 dX9_codeAt_12 rfl rfl rfl ?_
    refine J_aload_n (i := 0) 14 dX9_codeAt_13 rfl rfl rfl ?_
    refine J_getI (jz := 12) (lo := 0) (hi := 60) 17 dX9_codeAt_14 rfl fX9_114 rfl rfl rfl rfl (fun b4 b5 => ?_)
    refine J_iadd 18 dX9_codeAt_17 rfl ?_
    refine J_iald (N := 240) (lo := (-2147483648)) (hi := 2147483647) 19 dX9_codeAt_18 rfl rfl rfl rfl (fun b6 b7 => ?_)
    refine J_goto 24 dX9_codeAt_19 rfl ?_
    refine J_iret dX9_codeAt_24 rfl ?_
    refine ⟨?_, rfl⟩
    unfold cdM
    first | (rw [if_pos (by omega)]; done) | (rw [if_neg (by omega)]; done)
theorem cdM_b {f : Int → Int} (hf : ∀ j, inR (f j)) (a n p : Int) : inR (cdM f a n p) := by
  unfold cdM
  split
  · exact hf _
  · omega
set_option maxHeartbeats 4000000 in
theorem c_X9_figure (ha : 0 ≤ a ∧ a + n ≤ 240) (hn : 0 ≤ n ∧ n ≤ 60) (hm : -1 ≤ m ∧ m ≤ 9) : Ct P 2 yX9_figure cX9_figure 5 (some .int) [vr P 36, vi a, vi n, vi m] σ (rI (if 48 ≤ cdM (σ 63) a n (σ 36 12) ∧ cdM (σ 63) a n (σ 36 12) ≤ 48 + m then cdM (σ 63) a n (σ 36 12) - 48 else -9) (if 48 ≤ cdM (σ 63) a n (σ 36 12) ∧ cdM (σ 63) a n (σ 36 12) ≤ 48 + m then jup σ 36 12 (σ 36 12 + 1) else σ)) := by
  refine Ct.bd (fun hB => ?_)
  have hcb := cdM_b (f := σ 63) (fun j => hB 63 j) a n (σ 36 12)
  have hcn : 48 ≤ cdM (σ 63) a n (σ 36 12) → σ 36 12 < n := by
    intro h
    unfold cdM at h
    split at h <;> omega
  generalize hcd : cdM (σ 63) a n (σ 36 12) = cd at hcb hcn
  have hw := wr48 hcb hm.2
  have hwb := wr_b (cd - 48)
  refine Ct.of _ rfl rfl rfl (Nat.le_of_ble_eq_true rfl) (fun hB => ?_)
  refine J_aload_n (i := 0) 1 dX9_figure_0 rfl rfl rfl ?_
  refine J_iload_n (i := 1) 2 dX9_figure_1 rfl rfl rfl ?_
  refine J_iload_n (i := 2) 3 dX9_figure_2 rfl rfl rfl ?_
  refine J_callVi 6 dX9_figure_3 rfl kX9_117 mX9_codeAt rfl rfl rfl (c_X9_codeAt ha hn) (by first | decide | omega) rfl rfl (Nat.le_of_ble_eq_true rfl) (fun z2 s3 h1 => ?_)
  obtain ⟨hz, rfl⟩ := h1
  rw [hcd] at hz
  subst hz
  refine J_bipush 8 dX9_figure_6 rfl (by decide) ?_
  refine J_isub 9 dX9_figure_8 rfl ?_
  refine J.wrap ?_
  refine J_istore 11 dX9_figure_9 rfl (by decide) ?_
  refine J_iload 13 dX9_figure_11 rfl rfl ?_
  refine J_i2l 14 dX9_figure_13 rfl ?_
  refine J_lconst (z := 0) 15 dX9_figure_14 rfl rfl ?_
  refine J_iload_n (i := 3) 16 dX9_figure_15 rfl rfl rfl ?_
  refine J_i2l 17 dX9_figure_16 rfl ?_
  refine J_callSi 20 dX9_figure_17 rfl kX9_107 mX9_in (c_X9_in) (by first | decide | omega) rfl rfl (Nat.le_of_ble_eq_true rfl) (fun z5 s6 h4 => ?_)
  obtain ⟨rfl, rfl⟩ := h4
  refine J_bif_ne 26 23 dX9_figure_20 rfl rfl (fun c7 => ?_) (fun c7 => ?_)
  · refine J_aload_n (i := 0) 27 dX9_figure_26 rfl rfl rfl ?_
    refine J_dup 28 dX9_figure_27 rfl rfl ?_
    refine J_getI (jz := 12) (lo := 0) (hi := 60) 31 dX9_figure_28 rfl fX9_114 rfl rfl rfl rfl (fun b8 b9 => ?_)
    refine J_iconst 32 dX9_figure_31 rfl ?_
    refine J_iadd 33 dX9_figure_32 rfl ?_
    refine J_putI (jz := 12) (lo := 0) (hi := 60) 36 dX9_figure_33 rfl gX9_114 rfl rfl rfl rfl ?_
    refine J_iload 38 dX9_figure_36 rfl rfl ?_
    refine J_iret dX9_figure_38 rfl ?_
    first
      | (rw [if_pos (by omega), if_pos (by omega)]; exact ⟨by omega, rfl⟩)
      | (rw [if_neg (by omega), if_neg (by omega)]; exact ⟨rfl, rfl⟩)
  · refine J_bipush 25 dX9_figure_23 rfl (by decide) ?_
    refine J_iret dX9_figure_25 rfl ?_
    first
      | (rw [if_pos (by omega), if_pos (by omega)]; exact ⟨by omega, rfl⟩)
      | (rw [if_neg (by omega), if_neg (by omega)]; exact ⟨rfl, rfl⟩)
end

