/-! ===== the reference: what is kept and brought back, sheets ===== -/
def KR (σ τ : jS) : Prop := (∀ q, (q < 36 ∨ q = 43 ∨ (59 ≤ q ∧ q ≤ 63)) → τ q = σ q) ∧ (∀ j, (j = 0 ∨ j = 1 ∨ j = 2 ∨ j = 3 ∨ j = 4 ∨ j = 33 ∨ j = 40) → τ 36 j = σ 36 j) ∧ (∀ j, 0 ≤ j → j < σ 36 1 → τ 37 j = σ 37 j) ∧ ∀ q, 38 ≤ q → q ≤ 42 → ∀ j, 0 ≤ j → j < σ 36 2 → τ q j = σ q j
theorem KR_G3 {σ τ : jS} (h : G3 σ τ) : KR σ τ :=
  ⟨fun q hq => h q (by omega) (by omega) (by omega), fun j _ => by rw [h 36 (by omega) (by omega) (by omega)], fun j _ _ => by rw [h 37 (by omega) (by omega) (by omega)], fun q h1 h2 j _ _ => by rw [h q (by omega) (by omega) (by omega)]⟩
def kpI (σ : jS) (a b : Int) (τ : jS) : Prop := τ 36 24 = σ 36 3 ∧ τ 36 25 = σ 36 4 ∧ (∀ j, j ≠ 24 → j ≠ 25 → τ 36 j = σ 36 j) ∧ (∀ j, 0 ≤ j → j < a → τ 53 j = σ 37 j) ∧ (∀ j, 0 ≤ j → j < b → τ 54 j = σ 40 j ∧ τ 55 j = σ 41 j) ∧ ∀ q, q ≠ 36 → q ≠ 53 → q ≠ 54 → q ≠ 55 → τ q = σ q
def bkI (σ : jS) (a b : Int) (τ : jS) : Prop := τ 36 3 = σ 36 24 ∧ τ 36 4 = σ 36 25 ∧ (∀ j, j ≠ 3 → j ≠ 4 → τ 36 j = σ 36 j) ∧ (∀ j, 0 ≤ j → j < a → τ 37 j = σ 53 j) ∧ (∀ j, 0 ≤ j → j < b → τ 40 j = σ 54 j ∧ τ 41 j = σ 55 j) ∧ ∀ q, q ≠ 36 → q ≠ 37 → q ≠ 40 → q ≠ 41 → τ q = σ q
theorem jup_ne {σ : jS} {k : Nat} {j z : Int} {q : Nat} (h : q ≠ k) : jup σ k j z q = σ q := by
  funext i
  unfold jup
  rw [if_neg h]
theorem jup_at (σ : jS) (k : Nat) (j z : Int) : jup σ k j z k j = z := by
  unfold jup
  rw [if_pos rfl, if_pos rfl]
theorem jup_ne2 {σ : jS} {k : Nat} {j z i : Int} (h : i ≠ j) : jup σ k j z k i = σ k i := by
  unfold jup
  rw [if_pos rfl, if_neg h]
theorem kp_a {σ τ : jS} {d z : Int} (h : kpI σ d 0 τ) (hz : z = σ 37 d) : kpI σ (d + 1) 0 (jup τ 53 d z) := by
  obtain ⟨h1, h2, h3, h4, h5, h6⟩ := h
  refine ⟨h1, h2, h3, fun j a b => ?_, fun j a b => by omega, fun q a b c d => (jup_ne b).trans (h6 q a b c d)⟩
  by_cases e : j = d
  · rw [e, jup_at]; exact hz
  · rw [jup_ne2 e]; exact h4 j a (by omega)
theorem kp_b {σ τ : jS} {a d z z' : Int} (h : kpI σ a d τ) (hz : z = σ 40 d) (hz' : z' = σ 41 d) : kpI σ a (d + 1) (jup (jup τ 54 d z) 55 d z') := by
  obtain ⟨h1, h2, h3, h4, h5, h6⟩ := h
  refine ⟨h1, h2, h3, h4, fun j a b => ?_, fun q a b c d => (jup_ne d).trans ((jup_ne c).trans (h6 q a b c d))⟩
  by_cases e : j = d
  · rw [e, jup_at, jup_ne (by omega), jup_at]; exact ⟨hz, hz'⟩
  · rw [jup_ne2 e, jup_ne (by omega), jup_ne2 e, jup_ne (by omega)]; exact h5 j a (by omega)
theorem bk_a {σ τ : jS} {d z : Int} (h : bkI σ d 0 τ) (hz : z = σ 53 d) : bkI σ (d + 1) 0 (jup τ 37 d z) := by
  obtain ⟨h1, h2, h3, h4, h5, h6⟩ := h
  refine ⟨h1, h2, h3, fun j a b => ?_, fun j a b => by omega, fun q a b c d => (jup_ne b).trans (h6 q a b c d)⟩
  by_cases e : j = d
  · rw [e, jup_at]; exact hz
  · rw [jup_ne2 e]; exact h4 j a (by omega)
theorem bk_b {σ τ : jS} {a d z z' : Int} (h : bkI σ a d τ) (hz : z = σ 54 d) (hz' : z' = σ 55 d) : bkI σ a (d + 1) (jup (jup τ 40 d z) 41 d z') := by
  obtain ⟨h1, h2, h3, h4, h5, h6⟩ := h
  refine ⟨h1, h2, h3, h4, fun j a b => ?_, fun q a b c d => (jup_ne d).trans ((jup_ne c).trans (h6 q a b c d))⟩
  by_cases e : j = d
  · rw [e, jup_at, jup_ne (by omega), jup_at]; exact ⟨hz, hz'⟩
  · rw [jup_ne2 e, jup_ne (by omega), jup_ne2 e, jup_ne (by omega)]; exact h5 j a (by omega)
/-- what is done between keeping and bringing back -/
def BDY (σ τ : jS) : Prop := (∀ q, (q < 36 ∨ q = 38 ∨ q = 39 ∨ q = 42 ∨ q = 43 ∨ q = 53 ∨ q = 54 ∨ q = 55 ∨ (59 ≤ q ∧ q ≤ 63)) → τ q = σ q) ∧ ∀ j, j ≠ 3 → j ≠ 4 → j ≠ 29 → τ 36 j = σ 36 j
theorem BDY_refl (σ : jS) : BDY σ σ := ⟨fun _ _ => rfl, fun _ _ _ _ => rfl⟩
theorem BDY_trans {σ τ ρ : jS} (h : BDY σ τ) (g : BDY τ ρ) : BDY σ ρ := ⟨fun q hq => (g.1 q hq).trans (h.1 q hq), fun j a b c => (g.2 j a b c).trans (h.2 j a b c)⟩
theorem BDY_G3 {σ τ : jS} (h : G3 σ τ) : BDY σ τ := ⟨fun q hq => h q (by omega) (by omega) (by omega), fun j _ _ _ => by rw [h 36 (by omega) (by omega) (by omega)]⟩
theorem BDY_up {σ : jS} {K : Nat} {J z : Int} (h : K = 37 ∨ K = 40 ∨ K = 41 ∨ (44 ≤ K ∧ K ≤ 52) ∨ (56 ≤ K ∧ K ≤ 58) ∨ (K = 36 ∧ (J = 3 ∨ J = 4 ∨ J = 29))) : BDY σ (jup σ K J z) := by
  refine ⟨fun q hq => jup_ne (by omega), fun j a b c => ?_⟩
  by_cases e : K = 36
  · subst e; exact jup_ne2 (by omega)
  · rw [jup_ne (by omega)]
theorem KR_back {σ τ1 τ2 τ3 : jS} (h1 : kpI σ (σ 36 1) (σ 36 2) τ1) (h2 : BDY τ1 τ2) (h3 : bkI τ2 (τ2 36 1) (τ2 36 2) τ3) : KR σ τ3 := by
  obtain ⟨a1, a2, a3, a4, a5, a6⟩ := h1
  obtain ⟨c1, c2, c3, c4, c5, c6⟩ := h3
  have eg : τ2 36 1 = σ 36 1 := (h2.2 1 (by omega) (by omega) (by omega)).trans (a3 1 (by omega) (by omega))
  have en : τ2 36 2 = σ 36 2 := (h2.2 2 (by omega) (by omega) (by omega)).trans (a3 2 (by omega) (by omega))
  refine ⟨fun q hq => (c6 q (by omega) (by omega) (by omega) (by omega)).trans ((h2.1 q (by omega)).trans (a6 q (by omega) (by omega) (by omega) (by omega))), fun j hj => ?_, fun j ha hb => ?_, fun q hq hq2 j ha hb => ?_⟩
  · by_cases e : j = 3
    · rw [e, c1, h2.2 24 (by omega) (by omega) (by omega), a1]
    · by_cases e4 : j = 4
      · rw [e4, c2, h2.2 25 (by omega) (by omega) (by omega), a2]
      · rw [c3 j e e4, h2.2 j e e4 (by omega), a3 j (by omega) (by omega)]
  · rw [c4 j ha (by omega), h2.1 53 (by omega), a4 j ha hb]
  · rcases (show q = 40 ∨ q = 41 ∨ (q = 38 ∨ q = 39 ∨ q = 42) by omega) with e | e | e
    · rw [e, (c5 j ha (by omega)).1, h2.1 54 (by omega), (a5 j ha hb).1]
    · rw [e, (c5 j ha (by omega)).2, h2.1 55 (by omega), (a5 j ha hb).2]
    · rw [c6 q (by omega) (by omega) (by omega) (by omega), h2.1 q (by omega), a6 q (by omega) (by omega) (by omega) (by omega)]
def rngN (f g : Int → Int) (a n j : Int) : Int := if a ≤ j ∧ j < a + n then g (j - a) else f j
theorem rng_up {σ : jS} {q : Nat} {f g : Int → Int} {a d z i : Int} (hi : i = a + d) (hd : 0 ≤ d) (hz : z = g d) : jup (jset σ q (rngN f g a d)) q i z = jset σ q (rngN f g a (d + 1)) := by
  funext k j
  unfold jup jset rngN
  by_cases e : k = q
  · rw [if_pos e, if_pos e, if_pos e]
    by_cases e2 : j = i
    · rw [if_pos e2, if_pos (by omega), hz]
      congr 1
      omega
    · rw [if_neg e2]
      by_cases e3 : a ≤ j ∧ j < a + d
      · rw [if_pos e3, if_pos (by omega)]
      · rw [if_neg e3, if_neg (by omega)]
  · rw [if_neg e, if_neg e, if_neg e]
theorem rng_0 (σ : jS) (q : Nat) (g : Int → Int) (a : Int) : jset σ q (rngN (σ q) g a 0) = σ := by
  funext k j
  unfold jset rngN
  by_cases e : k = q
  · rw [if_pos e, if_neg (by omega), e]
  · rw [if_neg e]
section
variable {P : jP} {w o : Nat} {a b c d g x y z n s i j k l : Int} {σ τ v : jS}
set_option maxHeartbeats 4000000 in
theorem l_X9_keepsB : ∀ (k i : Nat) (d : Int) (τ : jS), i + k = (σ 36 2).toNat → d = i → kpI σ (σ 36 1) d τ → J P 1 (RX9, cX9_keeps, 2, none) 46 [some (vr P 36), some (vi d)] [] τ (qv fun σ' => kpI σ (σ 36 1) (σ 36 2) σ') := by
  intro k
  induction k with
  | zero =>
    intro i d τ hi hd hr
    have e2 := hr.2.2.1 2 (by omega) (by omega)
    refine J.bd (fun hB => ?_)
    have hn : 0 ≤ τ 36 2 ∧ τ 36 2 ≤ 6 := hB 36 2
    refine J_iload_n (i := 1) 47 dX9_keeps_46 rfl rfl rfl ?_
    refine J_aload_n (i := 0) 48 dX9_keeps_47 rfl rfl rfl ?_
    refine J_getI (jz := 2) (lo := 0) (hi := 6) 51 dX9_keeps_48 rfl fX9_104 rfl rfl rfl rfl (fun b1 b2 => ?_)
    refine J_icmp_ge 84 54 dX9_keeps_51 rfl rfl (fun c3 => ?_) (fun c3 => ?_)
    · refine J_vret dX9_keeps_84 rfl ?_
      rw [show d = σ 36 2 by omega] at hr
      exact hr
    · exfalso; omega
  | succ k ih =>
    intro i d τ hi hd hr
    have e2 := hr.2.2.1 2 (by omega) (by omega)
    have e4 : τ 40 d = σ 40 d := by rw [hr.2.2.2.2.2 40 (by omega) (by omega) (by omega) (by omega)]
    have e5 : τ 41 d = σ 41 d := by rw [hr.2.2.2.2.2 41 (by omega) (by omega) (by omega) (by omega)]
    refine J.bd (fun hB => ?_)
    have hn : 0 ≤ τ 36 2 ∧ τ 36 2 ≤ 6 := hB 36 2
    refine J_iload_n (i := 1) 47 dX9_keeps_46 rfl rfl rfl ?_
    refine J_aload_n (i := 0) 48 dX9_keeps_47 rfl rfl rfl ?_
    refine J_getI (jz := 2) (lo := 0) (hi := 6) 51 dX9_keeps_48 rfl fX9_104 rfl rfl rfl rfl (fun b1 b2 => ?_)
    refine J_icmp_ge 84 54 dX9_keeps_51 rfl rfl (fun c3 => ?_) (fun c3 => ?_)
    · exfalso; omega
    · refine J_aload_n (i := 0) 55 dX9_keeps_54 rfl rfl rfl ?_
      refine J_getR 58 dX9_keeps_55 rfl fX9_61 rfl rfl ?_
      refine J_iload_n (i := 1) 59 dX9_keeps_58 rfl rfl rfl ?_
      refine J_aload_n (i := 0) 60 dX9_keeps_59 rfl rfl rfl ?_
      refine J_getR 63 dX9_keeps_60 rfl fX9_19 rfl rfl ?_
      refine J_iload_n (i := 1) 64 dX9_keeps_63 rfl rfl rfl ?_
      refine J_iald (N := 6) (lo := 0) (hi := 9) 65 dX9_keeps_64 rfl rfl rfl rfl (fun b4 b5 => ?_)
      refine J_iast (N := 6) (lo := 0) (hi := 9) 66 dX9_keeps_65 rfl rfl rfl rfl ?_
      refine J_aload_n (i := 0) 67 dX9_keeps_66 rfl rfl rfl ?_
      refine J_getR 70 dX9_keeps_67 rfl fX9_64 rfl rfl ?_
      refine J_iload_n (i := 1) 71 dX9_keeps_70 rfl rfl rfl ?_
      refine J_aload_n (i := 0) 72 dX9_keeps_71 rfl rfl rfl ?_
      refine J_getR 75 dX9_keeps_72 rfl fX9_22 rfl rfl ?_
      refine J_iload_n (i := 1) 76 dX9_keeps_75 rfl rfl rfl ?_
      refine J_iald (N := 6) (lo := 0) (hi := 2) 77 dX9_keeps_76 rfl rfl rfl rfl (fun b6 b7 => ?_)
      try simp +decide only [jup, ↓reduceIte] at b6 b7 ⊢
      refine J_iast (N := 6) (lo := 0) (hi := 2) 78 dX9_keeps_77 rfl rfl rfl rfl ?_
      refine J_iinc 81 dX9_keeps_78 rfl (by decide) rfl ?_
      refine J_goto 46 dX9_keeps_81 rfl ?_
      exact ih (i + 1) _ _ (by omega) (by omega) (kp_b hr e4 e5)
set_option maxHeartbeats 4000000 in
theorem l_X9_keepsA : ∀ (k i : Nat) (d : Int) (τ : jS), i + k = (σ 36 1).toNat → d = i → kpI σ d 0 τ → J P 1 (RX9, cX9_keeps, 2, none) 18 [some (vr P 36), some (vi d)] [] τ (qv fun σ' => kpI σ (σ 36 1) (σ 36 2) σ') := by
  intro k
  induction k with
  | zero =>
    intro i d τ hi hd hr
    have e2 := hr.2.2.1 1 (by omega) (by omega)
    refine J.bd (fun hB => ?_)
    have hn : 0 ≤ τ 36 1 ∧ τ 36 1 ≤ 3 := hB 36 1
    refine J_iload_n (i := 1) 19 dX9_keeps_18 rfl rfl rfl ?_
    refine J_aload_n (i := 0) 20 dX9_keeps_19 rfl rfl rfl ?_
    refine J_getI (jz := 1) (lo := 0) (hi := 3) 23 dX9_keeps_20 rfl fX9_111 rfl rfl rfl rfl (fun b1 b2 => ?_)
    refine J_icmp_ge 44 26 dX9_keeps_23 rfl rfl (fun c3 => ?_) (fun c3 => ?_)
    · refine J_iconst 45 dX9_keeps_44 rfl ?_
      refine J_istore_n (i := 1) 46 dX9_keeps_45 rfl rfl (by decide) ?_
      rw [show d = σ 36 1 by omega] at hr
      exact l_X9_keepsB _ 0 _ _ (Nat.zero_add _) rfl hr
    · exfalso; omega
  | succ k ih =>
    intro i d τ hi hd hr
    have e2 := hr.2.2.1 1 (by omega) (by omega)
    have e4 : τ 37 d = σ 37 d := by rw [hr.2.2.2.2.2 37 (by omega) (by omega) (by omega) (by omega)]
    refine J.bd (fun hB => ?_)
    have hn : 0 ≤ τ 36 1 ∧ τ 36 1 ≤ 3 := hB 36 1
    refine J_iload_n (i := 1) 19 dX9_keeps_18 rfl rfl rfl ?_
    refine J_aload_n (i := 0) 20 dX9_keeps_19 rfl rfl rfl ?_
    refine J_getI (jz := 1) (lo := 0) (hi := 3) 23 dX9_keeps_20 rfl fX9_111 rfl rfl rfl rfl (fun b1 b2 => ?_)
    refine J_icmp_ge 44 26 dX9_keeps_23 rfl rfl (fun c3 => ?_) (fun c3 => ?_)
    · exfalso; omega
    · refine J_aload_n (i := 0) 27 dX9_keeps_26 rfl rfl rfl ?_
      refine J_getR 30 dX9_keeps_27 rfl fX9_58 rfl rfl ?_
      refine J_iload_n (i := 1) 31 dX9_keeps_30 rfl rfl rfl ?_
      refine J_aload_n (i := 0) 32 dX9_keeps_31 rfl rfl rfl ?_
      refine J_getR 35 dX9_keeps_32 rfl fX9_7 rfl rfl ?_
      refine J_iload_n (i := 1) 36 dX9_keeps_35 rfl rfl rfl ?_
      refine J_iald (N := 3) (lo := 0) (hi := 9) 37 dX9_keeps_36 rfl rfl rfl rfl (fun b4 b5 => ?_)
      refine J_iast (N := 3) (lo := 0) (hi := 9) 38 dX9_keeps_37 rfl rfl rfl rfl ?_
      refine J_iinc 41 dX9_keeps_38 rfl (by decide) rfl ?_
      refine J_goto 18 dX9_keeps_41 rfl ?_
      exact ih (i + 1) _ _ (by omega) (by omega) (kp_a hr e4)
theorem c_X9_keeps : Ct P 1 yX9_keeps cX9_keeps 2 none [vr P 36] σ (qv fun σ' => kpI σ (σ 36 1) (σ 36 2) σ') := by
  refine Ct.of _ rfl rfl rfl (Nat.le_of_ble_eq_true rfl) (fun hB => ?_)
  refine J_aload_n (i := 0) 1 dX9_keeps_0 rfl rfl rfl ?_
  refine J_aload_n (i := 0) 2 dX9_keeps_1 rfl rfl rfl ?_
  refine J_getI (jz := 3) (lo := 0) (hi := 2) 5 dX9_keeps_2 rfl fX9_162 rfl rfl rfl rfl (fun b1 b2 => ?_)
  refine J_putI (jz := 24) (lo := 0) (hi := 2) 8 dX9_keeps_5 rfl gX9_223 rfl rfl rfl rfl ?_
  refine J_aload_n (i := 0) 9 dX9_keeps_8 rfl rfl rfl ?_
  refine J_aload_n (i := 0) 10 dX9_keeps_9 rfl rfl rfl ?_
  refine J_getI (jz := 4) (lo := 0) (hi := 9) 13 dX9_keeps_10 rfl fX9_165 rfl rfl rfl rfl (fun b3 b4 => ?_)
  refine J_putI (jz := 25) (lo := 0) (hi := 9) 16 dX9_keeps_13 rfl gX9_226 rfl rfl rfl rfl ?_
  refine J_iconst 17 dX9_keeps_16 rfl ?_
  refine J_istore_n (i := 1) 18 dX9_keeps_17 rfl rfl (by decide) ?_
  refine l_X9_keepsA _ 0 _ _ (Nat.zero_add _) rfl ⟨rfl, rfl, fun j h1 h2 => ?_, fun j h1 h2 => ?_, fun j h1 h2 => ?_, fun q h1 _ _ _ => ?_⟩
  · rw [jup_ne2 h2, jup_ne2 h1]
  · exfalso; omega
  · exfalso; omega
  · rw [jup_ne h1, jup_ne h1]
set_option maxHeartbeats 4000000 in
theorem l_X9_bringsB : ∀ (k i : Nat) (d : Int) (τ : jS), i + k = (σ 36 2).toNat → d = i → bkI σ (σ 36 1) d τ → J P 1 (RX9, cX9_bringsBack, 2, none) 46 [some (vr P 36), some (vi d)] [] τ (qv fun σ' => bkI σ (σ 36 1) (σ 36 2) σ') := by
  intro k
  induction k with
  | zero =>
    intro i d τ hi hd hr
    have e2 := hr.2.2.1 2 (by omega) (by omega)
    refine J.bd (fun hB => ?_)
    have hn : 0 ≤ τ 36 2 ∧ τ 36 2 ≤ 6 := hB 36 2
    refine J_iload_n (i := 1) 47 dX9_bringsBack_46 rfl rfl rfl ?_
    refine J_aload_n (i := 0) 48 dX9_bringsBack_47 rfl rfl rfl ?_
    refine J_getI (jz := 2) (lo := 0) (hi := 6) 51 dX9_bringsBack_48 rfl fX9_104 rfl rfl rfl rfl (fun b1 b2 => ?_)
    refine J_icmp_ge 84 54 dX9_bringsBack_51 rfl rfl (fun c3 => ?_) (fun c3 => ?_)
    · refine J_vret dX9_bringsBack_84 rfl ?_
      rw [show d = σ 36 2 by omega] at hr
      exact hr
    · exfalso; omega
  | succ k ih =>
    intro i d τ hi hd hr
    have e2 := hr.2.2.1 2 (by omega) (by omega)
    have e4 : τ 54 d = σ 54 d := by rw [hr.2.2.2.2.2 54 (by omega) (by omega) (by omega) (by omega)]
    have e5 : τ 55 d = σ 55 d := by rw [hr.2.2.2.2.2 55 (by omega) (by omega) (by omega) (by omega)]
    refine J.bd (fun hB => ?_)
    have hn : 0 ≤ τ 36 2 ∧ τ 36 2 ≤ 6 := hB 36 2
    refine J_iload_n (i := 1) 47 dX9_bringsBack_46 rfl rfl rfl ?_
    refine J_aload_n (i := 0) 48 dX9_bringsBack_47 rfl rfl rfl ?_
    refine J_getI (jz := 2) (lo := 0) (hi := 6) 51 dX9_bringsBack_48 rfl fX9_104 rfl rfl rfl rfl (fun b1 b2 => ?_)
    refine J_icmp_ge 84 54 dX9_bringsBack_51 rfl rfl (fun c3 => ?_) (fun c3 => ?_)
    · exfalso; omega
    · refine J_aload_n (i := 0) 55 dX9_bringsBack_54 rfl rfl rfl ?_
      refine J_getR 58 dX9_bringsBack_55 rfl fX9_19 rfl rfl ?_
      refine J_iload_n (i := 1) 59 dX9_bringsBack_58 rfl rfl rfl ?_
      refine J_aload_n (i := 0) 60 dX9_bringsBack_59 rfl rfl rfl ?_
      refine J_getR 63 dX9_bringsBack_60 rfl fX9_61 rfl rfl ?_
      refine J_iload_n (i := 1) 64 dX9_bringsBack_63 rfl rfl rfl ?_
      refine J_iald (N := 6) (lo := 0) (hi := 9) 65 dX9_bringsBack_64 rfl rfl rfl rfl (fun b4 b5 => ?_)
      refine J_iast (N := 6) (lo := 0) (hi := 9) 66 dX9_bringsBack_65 rfl rfl rfl rfl ?_
      refine J_aload_n (i := 0) 67 dX9_bringsBack_66 rfl rfl rfl ?_
      refine J_getR 70 dX9_bringsBack_67 rfl fX9_22 rfl rfl ?_
      refine J_iload_n (i := 1) 71 dX9_bringsBack_70 rfl rfl rfl ?_
      refine J_aload_n (i := 0) 72 dX9_bringsBack_71 rfl rfl rfl ?_
      refine J_getR 75 dX9_bringsBack_72 rfl fX9_64 rfl rfl ?_
      refine J_iload_n (i := 1) 76 dX9_bringsBack_75 rfl rfl rfl ?_
      refine J_iald (N := 6) (lo := 0) (hi := 2) 77 dX9_bringsBack_76 rfl rfl rfl rfl (fun b6 b7 => ?_)
      try simp +decide only [jup, ↓reduceIte] at b6 b7 ⊢
      refine J_iast (N := 6) (lo := 0) (hi := 2) 78 dX9_bringsBack_77 rfl rfl rfl rfl ?_
      refine J_iinc 81 dX9_bringsBack_78 rfl (by decide) rfl ?_
      refine J_goto 46 dX9_bringsBack_81 rfl ?_
      exact ih (i + 1) _ _ (by omega) (by omega) (bk_b hr e4 e5)
set_option maxHeartbeats 4000000 in
theorem l_X9_bringsA : ∀ (k i : Nat) (d : Int) (τ : jS), i + k = (σ 36 1).toNat → d = i → bkI σ d 0 τ → J P 1 (RX9, cX9_bringsBack, 2, none) 18 [some (vr P 36), some (vi d)] [] τ (qv fun σ' => bkI σ (σ 36 1) (σ 36 2) σ') := by
  intro k
  induction k with
  | zero =>
    intro i d τ hi hd hr
    have e2 := hr.2.2.1 1 (by omega) (by omega)
    refine J.bd (fun hB => ?_)
    have hn : 0 ≤ τ 36 1 ∧ τ 36 1 ≤ 3 := hB 36 1
    refine J_iload_n (i := 1) 19 dX9_bringsBack_18 rfl rfl rfl ?_
    refine J_aload_n (i := 0) 20 dX9_bringsBack_19 rfl rfl rfl ?_
    refine J_getI (jz := 1) (lo := 0) (hi := 3) 23 dX9_bringsBack_20 rfl fX9_111 rfl rfl rfl rfl (fun b1 b2 => ?_)
    refine J_icmp_ge 44 26 dX9_bringsBack_23 rfl rfl (fun c3 => ?_) (fun c3 => ?_)
    · refine J_iconst 45 dX9_bringsBack_44 rfl ?_
      refine J_istore_n (i := 1) 46 dX9_bringsBack_45 rfl rfl (by decide) ?_
      rw [show d = σ 36 1 by omega] at hr
      exact l_X9_bringsB _ 0 _ _ (Nat.zero_add _) rfl hr
    · exfalso; omega
  | succ k ih =>
    intro i d τ hi hd hr
    have e2 := hr.2.2.1 1 (by omega) (by omega)
    have e4 : τ 53 d = σ 53 d := by rw [hr.2.2.2.2.2 53 (by omega) (by omega) (by omega) (by omega)]
    refine J.bd (fun hB => ?_)
    have hn : 0 ≤ τ 36 1 ∧ τ 36 1 ≤ 3 := hB 36 1
    refine J_iload_n (i := 1) 19 dX9_bringsBack_18 rfl rfl rfl ?_
    refine J_aload_n (i := 0) 20 dX9_bringsBack_19 rfl rfl rfl ?_
    refine J_getI (jz := 1) (lo := 0) (hi := 3) 23 dX9_bringsBack_20 rfl fX9_111 rfl rfl rfl rfl (fun b1 b2 => ?_)
    refine J_icmp_ge 44 26 dX9_bringsBack_23 rfl rfl (fun c3 => ?_) (fun c3 => ?_)
    · exfalso; omega
    · refine J_aload_n (i := 0) 27 dX9_bringsBack_26 rfl rfl rfl ?_
      refine J_getR 30 dX9_bringsBack_27 rfl fX9_7 rfl rfl ?_
      refine J_iload_n (i := 1) 31 dX9_bringsBack_30 rfl rfl rfl ?_
      refine J_aload_n (i := 0) 32 dX9_bringsBack_31 rfl rfl rfl ?_
      refine J_getR 35 dX9_bringsBack_32 rfl fX9_58 rfl rfl ?_
      refine J_iload_n (i := 1) 36 dX9_bringsBack_35 rfl rfl rfl ?_
      refine J_iald (N := 3) (lo := 0) (hi := 9) 37 dX9_bringsBack_36 rfl rfl rfl rfl (fun b4 b5 => ?_)
      refine J_iast (N := 3) (lo := 0) (hi := 9) 38 dX9_bringsBack_37 rfl rfl rfl rfl ?_
      refine J_iinc 41 dX9_bringsBack_38 rfl (by decide) rfl ?_
      refine J_goto 18 dX9_bringsBack_41 rfl ?_
      exact ih (i + 1) _ _ (by omega) (by omega) (bk_a hr e4)
theorem c_X9_bringsBack : Ct P 1 yX9_bringsBack cX9_bringsBack 2 none [vr P 36] σ (qv fun σ' => bkI σ (σ 36 1) (σ 36 2) σ') := by
  refine Ct.of _ rfl rfl rfl (Nat.le_of_ble_eq_true rfl) (fun hB => ?_)
  refine J_aload_n (i := 0) 1 dX9_bringsBack_0 rfl rfl rfl ?_
  refine J_aload_n (i := 0) 2 dX9_bringsBack_1 rfl rfl rfl ?_
  refine J_getI (jz := 24) (lo := 0) (hi := 2) 5 dX9_bringsBack_2 rfl fX9_223 rfl rfl rfl rfl (fun b1 b2 => ?_)
  refine J_putI (jz := 3) (lo := 0) (hi := 2) 8 dX9_bringsBack_5 rfl gX9_162 rfl rfl rfl rfl ?_
  refine J_aload_n (i := 0) 9 dX9_bringsBack_8 rfl rfl rfl ?_
  refine J_aload_n (i := 0) 10 dX9_bringsBack_9 rfl rfl rfl ?_
  refine J_getI (jz := 25) (lo := 0) (hi := 9) 13 dX9_bringsBack_10 rfl fX9_226 rfl rfl rfl rfl (fun b3 b4 => ?_)
  refine J_putI (jz := 4) (lo := 0) (hi := 9) 16 dX9_bringsBack_13 rfl gX9_165 rfl rfl rfl rfl ?_
  refine J_iconst 17 dX9_bringsBack_16 rfl ?_
  refine J_istore_n (i := 1) 18 dX9_bringsBack_17 rfl rfl (by decide) ?_
  refine l_X9_bringsA _ 0 _ _ (Nat.zero_add _) rfl ⟨rfl, rfl, fun j h1 h2 => ?_, fun j h1 h2 => ?_, fun j h1 h2 => ?_, fun q h1 _ _ _ => ?_⟩
  · rw [jup_ne2 h2, jup_ne2 h1]
  · exfalso; omega
  · exfalso; omega
  · rw [jup_ne h1, jup_ne h1]
theorem c_X9_noSheet (hx : inR x := by omega) : Ct P 2 yX9_noSheet cX9_noSheet 1 (some .boolean) [vi x] σ (rI (b01 (¬ (0 ≤ x ∧ x ≤ 3))) σ) := by
  refine Ct.of _ rfl rfl rfl (Nat.le_of_ble_eq_true rfl) (fun hB => ?_)
  refine J_iload_n (i := 0) 1 dX9_noSheet_0 rfl rfl rfl ?_
  refine J_i2l 2 dX9_noSheet_1 rfl ?_
  refine J_lconst (z := 0) 3 dX9_noSheet_2 rfl rfl ?_
  refine J_ldc2 6 dX9_noSheet_3 rfl cstX9_303 ?_
  refine J_callSi 9 dX9_noSheet_6 rfl kX9_107 mX9_in (c_X9_in) (by first | decide | omega) rfl rfl (Nat.le_of_ble_eq_true rfl) (fun z2 s3 h1 => ?_)
  obtain ⟨rfl, rfl⟩ := h1
  refine J_bif_ne 16 12 dX9_noSheet_9 rfl rfl (fun c4 => ?_) (fun c4 => ?_)
  · refine J_iconst 17 dX9_noSheet_16 rfl ?_
    refine J_zret dX9_noSheet_17 rfl ?_
    first | exact ⟨rfl, rfl⟩ | exact rfl | exact ⟨b01_t (by omega), rfl⟩ | exact ⟨b01_f (by omega), rfl⟩ | exact ⟨by omega, rfl⟩
  · refine J_iconst 13 dX9_noSheet_12 rfl ?_
    refine J_goto 17 dX9_noSheet_13 rfl ?_
    refine J_zret dX9_noSheet_17 rfl ?_
    first | exact ⟨rfl, rfl⟩ | exact rfl | exact ⟨b01_t (by omega), rfl⟩ | exact ⟨b01_f (by omega), rfl⟩ | exact ⟨by omega, rfl⟩
theorem c_X9_isBeyond (hx : inR x := by omega) (hy : -4294967296 ≤ y ∧ y ≤ 4294967296 := by omega) (hz : inR z := by omega) : Ct P 1 yX9_isBeyond cX9_isBeyond 4 (some .boolean) [vi x, vl y, vi z] σ (rI (b01 (x < 0 ∨ y < 0 ∨ z < x + y)) σ) := by
  refine Ct.of _ rfl rfl rfl (Nat.le_of_ble_eq_true rfl) (fun hB => ?_)
  refine J_iload_n (i := 0) 1 dX9_isBeyond_0 rfl rfl rfl ?_
  refine J_if_lt 20 4 dX9_isBeyond_1 rfl rfl (fun c1 => ?_) (fun c1 => ?_)
  · refine J_iconst 21 dX9_isBeyond_20 rfl ?_
    refine J_goto 25 dX9_isBeyond_21 rfl ?_
    refine J_zret dX9_isBeyond_25 rfl ?_
    first | exact ⟨rfl, rfl⟩ | exact rfl | exact ⟨b01_t (by omega), rfl⟩ | exact ⟨b01_f (by omega), rfl⟩ | exact ⟨by omega, rfl⟩
  · refine J_lload_n (i := 1) 5 dX9_isBeyond_4 rfl rfl rfl ?_
    refine J_lconst (z := 0) 6 dX9_isBeyond_5 rfl rfl ?_
    refine J_lcmp 7 dX9_isBeyond_6 rfl ?_
    refine J_if_lt 20 10 dX9_isBeyond_7 rfl rfl (fun c2 => ?_) (fun c2 => ?_)
    · refine J_iconst 21 dX9_isBeyond_20 rfl ?_
      refine J_goto 25 dX9_isBeyond_21 rfl ?_
      refine J_zret dX9_isBeyond_25 rfl ?_
      first | exact ⟨rfl, rfl⟩ | exact rfl | exact ⟨b01_t (by omega), rfl⟩ | exact ⟨b01_f (by omega), rfl⟩ | exact ⟨by omega, rfl⟩
    · refine J_iload_n (i := 0) 11 dX9_isBeyond_10 rfl rfl rfl ?_
      refine J_i2l 12 dX9_isBeyond_11 rfl ?_
      refine J_lload_n (i := 1) 13 dX9_isBeyond_12 rfl rfl rfl ?_
      refine J_ladd 14 dX9_isBeyond_13 rfl ?_
      refine J_iload_n (i := 3) 15 dX9_isBeyond_14 rfl rfl rfl ?_
      refine J_i2l 16 dX9_isBeyond_15 rfl ?_
      refine J_lcmp 17 dX9_isBeyond_16 rfl ?_
      refine J_if_le 24 20 dX9_isBeyond_17 rfl rfl (fun c3 => ?_) (fun c3 => ?_)
      · refine J_iconst 25 dX9_isBeyond_24 rfl ?_
        refine J_zret dX9_isBeyond_25 rfl ?_
        first | exact ⟨rfl, rfl⟩ | exact rfl | exact ⟨b01_t (by omega), rfl⟩ | exact ⟨b01_f (by omega), rfl⟩ | exact ⟨by omega, rfl⟩
      · refine J_iconst 21 dX9_isBeyond_20 rfl ?_
        refine J_goto 25 dX9_isBeyond_21 rfl ?_
        refine J_zret dX9_isBeyond_25 rfl ?_
        first | exact ⟨rfl, rfl⟩ | exact rfl | exact ⟨b01_t (by omega), rfl⟩ | exact ⟨b01_f (by omega), rfl⟩ | exact ⟨by omega, rfl⟩
theorem c_X9_noCell (hx : 0 ≤ x ∧ x ≤ 3 := by omega) (hi : inR i := by omega) : Ct P 2 yX9_noCell cX9_noCell 3 (some .int) [vr P 36, vi x, vi i] σ (rI (if σ 61 x < 0 then 1 else if 0 ≤ i ∧ i < σ 61 x then 0 else 3) σ) := by
  refine Ct.of _ rfl rfl rfl (Nat.le_of_ble_eq_true rfl) (fun hB => ?_)
  refine J_aload_n (i := 0) 1 dX9_noCell_0 rfl rfl rfl ?_
  refine J_getR 4 dX9_noCell_1 rfl fX9_82 rfl rfl ?_
  refine J_iload_n (i := 1) 5 dX9_noCell_4 rfl rfl rfl ?_
  refine J_iald (N := 4) (lo := (-1)) (hi := 60) 6 dX9_noCell_5 rfl rfl rfl rfl (fun b1 b2 => ?_)
  refine J_if_ge 13 9 dX9_noCell_6 rfl rfl (fun c3 => ?_) (fun c3 => ?_)
  · refine J_iload_n (i := 2) 14 dX9_noCell_13 rfl rfl rfl ?_
    refine J_i2l 15 dX9_noCell_14 rfl ?_
    refine J_lconst (z := 0) 16 dX9_noCell_15 rfl rfl ?_
    refine J_aload_n (i := 0) 17 dX9_noCell_16 rfl rfl rfl ?_
    refine J_getR 20 dX9_noCell_17 rfl fX9_82 rfl rfl ?_
    refine J_iload_n (i := 1) 21 dX9_noCell_20 rfl rfl rfl ?_
    refine J_iald (N := 4) (lo := (-1)) (hi := 60) 22 dX9_noCell_21 rfl rfl rfl rfl (fun b4 b5 => ?_)
    refine J_i2l 23 dX9_noCell_22 rfl ?_
    refine J_lconst (z := 1) 24 dX9_noCell_23 rfl rfl ?_
    refine J_lsub 25 dX9_noCell_24 rfl ?_
    refine J_callSi 28 dX9_noCell_25 rfl kX9_107 mX9_in (c_X9_in) (by first | decide | omega) rfl rfl (Nat.le_of_ble_eq_true rfl) (fun z7 s8 h6 => ?_)
    obtain ⟨rfl, rfl⟩ := h6
    refine J_bif_eq 35 31 dX9_noCell_28 rfl rfl (fun c9 => ?_) (fun c9 => ?_)
    · refine J_iconst 36 dX9_noCell_35 rfl ?_
      refine J_iret dX9_noCell_36 rfl ?_
      refine ⟨?_, rfl⟩
      first | rfl | (rw [if_pos (by omega)]; first | done | rfl) | (rw [if_neg (by omega)]; first | done | rfl) | (rw [if_neg (by omega), if_pos (by omega)]; first | done | rfl) | (rw [if_neg (by omega), if_neg (by omega)]; first | done | rfl) | (rw [if_neg (by omega), if_neg (by omega), if_pos (by omega)]; first | done | rfl) | (rw [if_neg (by omega), if_neg (by omega), if_neg (by omega)]; first | done | rfl) | (rw [if_neg (by omega), if_neg (by omega), if_neg (by omega), if_pos (by omega)]; first | done | rfl) | (rw [if_neg (by omega), if_neg (by omega), if_neg (by omega), if_neg (by omega)]; first | done | rfl) | (rw [if_neg (by omega), if_neg (by omega), if_neg (by omega), if_neg (by omega), if_pos (by omega)]; first | done | rfl) | (rw [if_neg (by omega), if_neg (by omega), if_neg (by omega), if_neg (by omega), if_neg (by omega)]; first | done | rfl)
    · refine J_iconst 32 dX9_noCell_31 rfl ?_
      refine J_goto 36 dX9_noCell_32 rfl ?_
      refine J_iret dX9_noCell_36 rfl ?_
      refine ⟨?_, rfl⟩
      first | rfl | (rw [if_pos (by omega)]; first | done | rfl) | (rw [if_neg (by omega)]; first | done | rfl) | (rw [if_neg (by omega), if_pos (by omega)]; first | done | rfl) | (rw [if_neg (by omega), if_neg (by omega)]; first | done | rfl) | (rw [if_neg (by omega), if_neg (by omega), if_pos (by omega)]; first | done | rfl) | (rw [if_neg (by omega), if_neg (by omega), if_neg (by omega)]; first | done | rfl) | (rw [if_neg (by omega), if_neg (by omega), if_neg (by omega), if_pos (by omega)]; first | done | rfl) | (rw [if_neg (by omega), if_neg (by omega), if_neg (by omega), if_neg (by omega)]; first | done | rfl) | (rw [if_neg (by omega), if_neg (by omega), if_neg (by omega), if_neg (by omega), if_pos (by omega)]; first | done | rfl) | (rw [if_neg (by omega), if_neg (by omega), if_neg (by omega), if_neg (by omega), if_neg (by omega)]; first | done | rfl)
  · refine J_iconst 10 dX9_noCell_9 rfl ?_
    refine J_goto 36 dX9_noCell_10 rfl ?_
    refine J_iret dX9_noCell_36 rfl ?_
    refine ⟨?_, rfl⟩
    first | rfl | (rw [if_pos (by omega)]; first | done | rfl) | (rw [if_neg (by omega)]; first | done | rfl) | (rw [if_neg (by omega), if_pos (by omega)]; first | done | rfl) | (rw [if_neg (by omega), if_neg (by omega)]; first | done | rfl) | (rw [if_neg (by omega), if_neg (by omega), if_pos (by omega)]; first | done | rfl) | (rw [if_neg (by omega), if_neg (by omega), if_neg (by omega)]; first | done | rfl) | (rw [if_neg (by omega), if_neg (by omega), if_neg (by omega), if_pos (by omega)]; first | done | rfl) | (rw [if_neg (by omega), if_neg (by omega), if_neg (by omega), if_neg (by omega)]; first | done | rfl) | (rw [if_neg (by omega), if_neg (by omega), if_neg (by omega), if_neg (by omega), if_pos (by omega)]; first | done | rfl) | (rw [if_neg (by omega), if_neg (by omega), if_neg (by omega), if_neg (by omega), if_neg (by omega)]; first | done | rfl)
theorem c_X9_lose (hx : inR x) : Ct P 3 yX9_lose cX9_lose 3 (some .int) [vr P 36, vi x] σ (rI (if ¬ (0 ≤ x ∧ x ≤ 3) then -1 else if σ 61 x < 0 then 0 else 1) (if ¬ (0 ≤ x ∧ x ≤ 3) then σ else jup σ 61 x (-1))) := by
  refine Ct.of _ rfl rfl rfl (Nat.le_of_ble_eq_true rfl) (fun hB => ?_)
  refine J_iload_n (i := 1) 1 dX9_lose_0 rfl rfl rfl ?_
  refine J_callSi 4 dX9_lose_1 rfl kX9_146 mX9_noSheet (c_X9_noSheet) (by first | decide | omega) rfl rfl (Nat.le_of_ble_eq_true rfl) (fun z2 s3 h1 => ?_)
  obtain ⟨rfl, rfl⟩ := h1
  refine J_bif_eq 9 7 dX9_lose_4 rfl rfl (fun c4 => ?_) (fun c4 => ?_)
  · refine J_aload_n (i := 0) 10 dX9_lose_9 rfl rfl rfl ?_
    refine J_getR 13 dX9_lose_10 rfl fX9_82 rfl rfl ?_
    refine J_iload_n (i := 1) 14 dX9_lose_13 rfl rfl rfl ?_
    refine J_iald (N := 4) (lo := (-1)) (hi := 60) 15 dX9_lose_14 rfl rfl rfl rfl (fun b5 b6 => ?_)
    refine J_if_ge 22 18 dX9_lose_15 rfl rfl (fun c7 => ?_) (fun c7 => ?_)
    · refine J_iconst 23 dX9_lose_22 rfl ?_
      refine J_istore_n (i := 2) 24 dX9_lose_23 rfl rfl (by decide) ?_
      refine J_aload_n (i := 0) 25 dX9_lose_24 rfl rfl rfl ?_
      refine J_getR 28 dX9_lose_25 rfl fX9_82 rfl rfl ?_
      refine J_iload_n (i := 1) 29 dX9_lose_28 rfl rfl rfl ?_
      refine J_iconst 30 dX9_lose_29 rfl ?_
      refine J_iast (N := 4) (lo := (-1)) (hi := 60) 31 dX9_lose_30 rfl rfl rfl rfl ?_
      refine J_iload_n (i := 2) 32 dX9_lose_31 rfl rfl rfl ?_
      refine J_iret dX9_lose_32 rfl ?_
      refine ⟨?_, ?_⟩
      · first | rfl | (rw [if_pos (by omega)]; first | done | rfl) | (rw [if_neg (by omega)]; first | done | rfl) | (rw [if_neg (by omega), if_pos (by omega)]; first | done | rfl) | (rw [if_neg (by omega), if_neg (by omega)]; first | done | rfl) | (rw [if_neg (by omega), if_neg (by omega), if_pos (by omega)]; first | done | rfl) | (rw [if_neg (by omega), if_neg (by omega), if_neg (by omega)]; first | done | rfl) | (rw [if_neg (by omega), if_neg (by omega), if_neg (by omega), if_pos (by omega)]; first | done | rfl) | (rw [if_neg (by omega), if_neg (by omega), if_neg (by omega), if_neg (by omega)]; first | done | rfl) | (rw [if_neg (by omega), if_neg (by omega), if_neg (by omega), if_neg (by omega), if_pos (by omega)]; first | done | rfl) | (rw [if_neg (by omega), if_neg (by omega), if_neg (by omega), if_neg (by omega), if_neg (by omega)]; first | done | rfl)
      · first | rfl | (rw [if_pos (by omega)]; first | done | rfl) | (rw [if_neg (by omega)]; first | done | rfl) | (rw [if_neg (by omega), if_pos (by omega)]; first | done | rfl) | (rw [if_neg (by omega), if_neg (by omega)]; first | done | rfl) | (rw [if_neg (by omega), if_neg (by omega), if_pos (by omega)]; first | done | rfl) | (rw [if_neg (by omega), if_neg (by omega), if_neg (by omega)]; first | done | rfl) | (rw [if_neg (by omega), if_neg (by omega), if_neg (by omega), if_pos (by omega)]; first | done | rfl) | (rw [if_neg (by omega), if_neg (by omega), if_neg (by omega), if_neg (by omega)]; first | done | rfl) | (rw [if_neg (by omega), if_neg (by omega), if_neg (by omega), if_neg (by omega), if_pos (by omega)]; first | done | rfl) | (rw [if_neg (by omega), if_neg (by omega), if_neg (by omega), if_neg (by omega), if_neg (by omega)]; first | done | rfl)
    · refine J_iconst 19 dX9_lose_18 rfl ?_
      refine J_goto 23 dX9_lose_19 rfl ?_
      refine J_istore_n (i := 2) 24 dX9_lose_23 rfl rfl (by decide) ?_
      refine J_aload_n (i := 0) 25 dX9_lose_24 rfl rfl rfl ?_
      refine J_getR 28 dX9_lose_25 rfl fX9_82 rfl rfl ?_
      refine J_iload_n (i := 1) 29 dX9_lose_28 rfl rfl rfl ?_
      refine J_iconst 30 dX9_lose_29 rfl ?_
      refine J_iast (N := 4) (lo := (-1)) (hi := 60) 31 dX9_lose_30 rfl rfl rfl rfl ?_
      refine J_iload_n (i := 2) 32 dX9_lose_31 rfl rfl rfl ?_
      refine J_iret dX9_lose_32 rfl ?_
      refine ⟨?_, ?_⟩
      · first | rfl | (rw [if_pos (by omega)]; first | done | rfl) | (rw [if_neg (by omega)]; first | done | rfl) | (rw [if_neg (by omega), if_pos (by omega)]; first | done | rfl) | (rw [if_neg (by omega), if_neg (by omega)]; first | done | rfl) | (rw [if_neg (by omega), if_neg (by omega), if_pos (by omega)]; first | done | rfl) | (rw [if_neg (by omega), if_neg (by omega), if_neg (by omega)]; first | done | rfl) | (rw [if_neg (by omega), if_neg (by omega), if_neg (by omega), if_pos (by omega)]; first | done | rfl) | (rw [if_neg (by omega), if_neg (by omega), if_neg (by omega), if_neg (by omega)]; first | done | rfl) | (rw [if_neg (by omega), if_neg (by omega), if_neg (by omega), if_neg (by omega), if_pos (by omega)]; first | done | rfl) | (rw [if_neg (by omega), if_neg (by omega), if_neg (by omega), if_neg (by omega), if_neg (by omega)]; first | done | rfl)
      · first | rfl | (rw [if_pos (by omega)]; first | done | rfl) | (rw [if_neg (by omega)]; first | done | rfl) | (rw [if_neg (by omega), if_pos (by omega)]; first | done | rfl) | (rw [if_neg (by omega), if_neg (by omega)]; first | done | rfl) | (rw [if_neg (by omega), if_neg (by omega), if_pos (by omega)]; first | done | rfl) | (rw [if_neg (by omega), if_neg (by omega), if_neg (by omega)]; first | done | rfl) | (rw [if_neg (by omega), if_neg (by omega), if_neg (by omega), if_pos (by omega)]; first | done | rfl) | (rw [if_neg (by omega), if_neg (by omega), if_neg (by omega), if_neg (by omega)]; first | done | rfl) | (rw [if_neg (by omega), if_neg (by omega), if_neg (by omega), if_neg (by omega), if_pos (by omega)]; first | done | rfl) | (rw [if_neg (by omega), if_neg (by omega), if_neg (by omega), if_neg (by omega), if_neg (by omega)]; first | done | rfl)
  · refine J_iconst 8 dX9_lose_7 rfl ?_
    refine J_iret dX9_lose_8 rfl ?_
    refine ⟨?_, ?_⟩
    · first | rfl | (rw [if_pos (by omega)]; first | done | rfl) | (rw [if_neg (by omega)]; first | done | rfl) | (rw [if_neg (by omega), if_pos (by omega)]; first | done | rfl) | (rw [if_neg (by omega), if_neg (by omega)]; first | done | rfl) | (rw [if_neg (by omega), if_neg (by omega), if_pos (by omega)]; first | done | rfl) | (rw [if_neg (by omega), if_neg (by omega), if_neg (by omega)]; first | done | rfl) | (rw [if_neg (by omega), if_neg (by omega), if_neg (by omega), if_pos (by omega)]; first | done | rfl) | (rw [if_neg (by omega), if_neg (by omega), if_neg (by omega), if_neg (by omega)]; first | done | rfl) | (rw [if_neg (by omega), if_neg (by omega), if_neg (by omega), if_neg (by omega), if_pos (by omega)]; first | done | rfl) | (rw [if_neg (by omega), if_neg (by omega), if_neg (by omega), if_neg (by omega), if_neg (by omega)]; first | done | rfl)
    · first | rfl | (rw [if_pos (by omega)]; first | done | rfl) | (rw [if_neg (by omega)]; first | done | rfl) | (rw [if_neg (by omega), if_pos (by omega)]; first | done | rfl) | (rw [if_neg (by omega), if_neg (by omega)]; first | done | rfl) | (rw [if_neg (by omega), if_neg (by omega), if_pos (by omega)]; first | done | rfl) | (rw [if_neg (by omega), if_neg (by omega), if_neg (by omega)]; first | done | rfl) | (rw [if_neg (by omega), if_neg (by omega), if_neg (by omega), if_pos (by omega)]; first | done | rfl) | (rw [if_neg (by omega), if_neg (by omega), if_neg (by omega), if_neg (by omega)]; first | done | rfl) | (rw [if_neg (by omega), if_neg (by omega), if_neg (by omega), if_neg (by omega), if_pos (by omega)]; first | done | rfl) | (rw [if_neg (by omega), if_neg (by omega), if_neg (by omega), if_neg (by omega), if_neg (by omega)]; first | done | rfl)
def fR (σ : jS) (k l i n : Int) : Int := if 0 ≤ σ 61 k ∧ ¬ σ 62 k = l then 2 else if σ 61 k < 0 then 1 else if n < 0 then 4 else if i < 0 ∨ σ 61 k < i + n then 3 else 0
theorem fR_b (σ : jS) (k l i n : Int) : 0 ≤ fR σ k l i n ∧ fR σ k l i n ≤ 4 := by
  unfold fR
  repeat' split
  all_goals omega
theorem c_X9_cellsBarred (hx : 0 ≤ x ∧ x ≤ 3) (hl : inR l) (hi : inR i) (hn : -4294967296 ≤ n ∧ n ≤ 4294967296) : Ct P 2 yX9_cellsBarred cX9_cellsBarred 6 (some .int) [vr P 36, vi x, vi l, vi i, vl n] σ (rI (if fR σ x l i n = 0 then 0 else -10 - fR σ x l i n) (if fR σ x l i n = 0 then σ else jup σ 36 0 (fR σ x l i n))) := by
  refine Ct.of _ rfl rfl rfl (Nat.le_of_ble_eq_true rfl) (fun hB => ?_)
  refine J_aload_n (i := 0) 1 dX9_cellsBarred_0 rfl rfl rfl ?_
  refine J_getR 4 dX9_cellsBarred_1 rfl fX9_82 rfl rfl ?_
  refine J_iload_n (i := 1) 5 dX9_cellsBarred_4 rfl rfl rfl ?_
  refine J_iald (N := 4) (lo := (-1)) (hi := 60) 6 dX9_cellsBarred_5 rfl rfl rfl rfl (fun b1 b2 => ?_)
  refine J_if_lt 25 9 dX9_cellsBarred_6 rfl rfl (fun c3 => ?_) (fun c3 => ?_)
  · refine J_aload_n (i := 0) 26 dX9_cellsBarred_25 rfl rfl rfl ?_
    refine J_getR 29 dX9_cellsBarred_26 rfl fX9_82 rfl rfl ?_
    refine J_iload_n (i := 1) 30 dX9_cellsBarred_29 rfl rfl rfl ?_
    refine J_iald (N := 4) (lo := (-1)) (hi := 60) 31 dX9_cellsBarred_30 rfl rfl rfl rfl (fun b4 b5 => ?_)
    refine J_if_ge 40 34 dX9_cellsBarred_31 rfl rfl (fun c6 => ?_) (fun c6 => ?_)
    · refine J_lload 42 dX9_cellsBarred_40 rfl rfl ?_
      refine J_lconst (z := 0) 43 dX9_cellsBarred_42 rfl rfl ?_
      refine J_lcmp 44 dX9_cellsBarred_43 rfl ?_
      refine J_if_ge 53 47 dX9_cellsBarred_44 rfl rfl (fun c7 => ?_) (fun c7 => ?_)
      · refine J_iload_n (i := 3) 54 dX9_cellsBarred_53 rfl rfl rfl ?_
        refine J_lload 56 dX9_cellsBarred_54 rfl rfl ?_
        refine J_aload_n (i := 0) 57 dX9_cellsBarred_56 rfl rfl rfl ?_
        refine J_getR 60 dX9_cellsBarred_57 rfl fX9_82 rfl rfl ?_
        refine J_iload_n (i := 1) 61 dX9_cellsBarred_60 rfl rfl rfl ?_
        refine J_iald (N := 4) (lo := (-1)) (hi := 60) 62 dX9_cellsBarred_61 rfl rfl rfl rfl (fun b8 b9 => ?_)
        refine J_callSi 65 dX9_cellsBarred_62 rfl kX9_142 mX9_isBeyond (c_X9_isBeyond) (by first | decide | omega) rfl rfl (Nat.le_of_ble_eq_true rfl) (fun z11 s12 h10 => ?_)
        obtain ⟨rfl, rfl⟩ := h10
        refine J_bif_eq 76 68 dX9_cellsBarred_65 rfl rfl (fun c13 => ?_) (fun c13 => ?_)
        · refine J_iconst 77 dX9_cellsBarred_76 rfl ?_
          refine J_iret dX9_cellsBarred_77 rfl ?_
          first
            | (rw [show fR σ x l i n = 3 by unfold fR; rw [if_neg (by omega), if_neg (by omega), if_neg (by omega), if_pos (by omega)]]; exact ⟨rfl, rfl⟩)
            | (rw [show fR σ x l i n = 0 by unfold fR; rw [if_neg (by omega), if_neg (by omega), if_neg (by omega), if_neg (by omega)]]; exact ⟨rfl, rfl⟩)
        · refine J_aload_n (i := 0) 69 dX9_cellsBarred_68 rfl rfl rfl ?_
          refine J_iconst 70 dX9_cellsBarred_69 rfl ?_
          refine J_callVi 73 dX9_cellsBarred_70 rfl kX9_138 mX9_failed rfl rfl rfl (c_X9_failed) (by first | decide | omega) rfl rfl (Nat.le_of_ble_eq_true rfl) (fun z15 s16 h14 => ?_)
          obtain ⟨rfl, rfl⟩ := h14
          refine J_goto 77 dX9_cellsBarred_73 rfl ?_
          refine J_iret dX9_cellsBarred_77 rfl ?_
          first
            | (rw [show fR σ x l i n = 3 by unfold fR; rw [if_neg (by omega), if_neg (by omega), if_neg (by omega), if_pos (by omega)]]; exact ⟨rfl, rfl⟩)
            | (rw [show fR σ x l i n = 0 by unfold fR; rw [if_neg (by omega), if_neg (by omega), if_neg (by omega), if_neg (by omega)]]; exact ⟨rfl, rfl⟩)
      · refine J_aload_n (i := 0) 48 dX9_cellsBarred_47 rfl rfl rfl ?_
        refine J_iconst 49 dX9_cellsBarred_48 rfl ?_
        refine J_callVi 52 dX9_cellsBarred_49 rfl kX9_138 mX9_failed rfl rfl rfl (c_X9_failed) (by first | decide | omega) rfl rfl (Nat.le_of_ble_eq_true rfl) (fun z18 s19 h17 => ?_)
        obtain ⟨rfl, rfl⟩ := h17
        refine J_iret dX9_cellsBarred_52 rfl ?_
        rw [show fR σ x l i n = 4 by unfold fR; rw [if_neg (by omega), if_neg (by omega), if_pos (by omega)]]
        exact ⟨rfl, rfl⟩
    · refine J_aload_n (i := 0) 35 dX9_cellsBarred_34 rfl rfl rfl ?_
      refine J_iconst 36 dX9_cellsBarred_35 rfl ?_
      refine J_callVi 39 dX9_cellsBarred_36 rfl kX9_138 mX9_failed rfl rfl rfl (c_X9_failed) (by first | decide | omega) rfl rfl (Nat.le_of_ble_eq_true rfl) (fun z21 s22 h20 => ?_)
      obtain ⟨rfl, rfl⟩ := h20
      refine J_iret dX9_cellsBarred_39 rfl ?_
      rw [show fR σ x l i n = 1 by unfold fR; rw [if_neg (by omega), if_pos (by omega)]]
      exact ⟨rfl, rfl⟩
  · refine J_aload_n (i := 0) 10 dX9_cellsBarred_9 rfl rfl rfl ?_
    refine J_getR 13 dX9_cellsBarred_10 rfl fX9_85 rfl rfl ?_
    refine J_iload_n (i := 1) 14 dX9_cellsBarred_13 rfl rfl rfl ?_
    refine J_iald (N := 4) (lo := 0) (hi := 2) 15 dX9_cellsBarred_14 rfl rfl rfl rfl (fun b23 b24 => ?_)
    refine J_iload_n (i := 2) 16 dX9_cellsBarred_15 rfl rfl rfl ?_
    refine J_icmp_eq 25 19 dX9_cellsBarred_16 rfl rfl (fun c25 => ?_) (fun c25 => ?_)
    · refine J_aload_n (i := 0) 26 dX9_cellsBarred_25 rfl rfl rfl ?_
      refine J_getR 29 dX9_cellsBarred_26 rfl fX9_82 rfl rfl ?_
      refine J_iload_n (i := 1) 30 dX9_cellsBarred_29 rfl rfl rfl ?_
      refine J_iald (N := 4) (lo := (-1)) (hi := 60) 31 dX9_cellsBarred_30 rfl rfl rfl rfl (fun b26 b27 => ?_)
      refine J_if_ge 40 34 dX9_cellsBarred_31 rfl rfl (fun c28 => ?_) (fun c28 => ?_)
      · refine J_lload 42 dX9_cellsBarred_40 rfl rfl ?_
        refine J_lconst (z := 0) 43 dX9_cellsBarred_42 rfl rfl ?_
        refine J_lcmp 44 dX9_cellsBarred_43 rfl ?_
        refine J_if_ge 53 47 dX9_cellsBarred_44 rfl rfl (fun c29 => ?_) (fun c29 => ?_)
        · refine J_iload_n (i := 3) 54 dX9_cellsBarred_53 rfl rfl rfl ?_
          refine J_lload 56 dX9_cellsBarred_54 rfl rfl ?_
          refine J_aload_n (i := 0) 57 dX9_cellsBarred_56 rfl rfl rfl ?_
          refine J_getR 60 dX9_cellsBarred_57 rfl fX9_82 rfl rfl ?_
          refine J_iload_n (i := 1) 61 dX9_cellsBarred_60 rfl rfl rfl ?_
          refine J_iald (N := 4) (lo := (-1)) (hi := 60) 62 dX9_cellsBarred_61 rfl rfl rfl rfl (fun b30 b31 => ?_)
          refine J_callSi 65 dX9_cellsBarred_62 rfl kX9_142 mX9_isBeyond (c_X9_isBeyond) (by first | decide | omega) rfl rfl (Nat.le_of_ble_eq_true rfl) (fun z33 s34 h32 => ?_)
          obtain ⟨rfl, rfl⟩ := h32
          refine J_bif_eq 76 68 dX9_cellsBarred_65 rfl rfl (fun c35 => ?_) (fun c35 => ?_)
          · refine J_iconst 77 dX9_cellsBarred_76 rfl ?_
            refine J_iret dX9_cellsBarred_77 rfl ?_
            first
              | (rw [show fR σ x l i n = 3 by unfold fR; rw [if_neg (by omega), if_neg (by omega), if_neg (by omega), if_pos (by omega)]]; exact ⟨rfl, rfl⟩)
              | (rw [show fR σ x l i n = 0 by unfold fR; rw [if_neg (by omega), if_neg (by omega), if_neg (by omega), if_neg (by omega)]]; exact ⟨rfl, rfl⟩)
          · refine J_aload_n (i := 0) 69 dX9_cellsBarred_68 rfl rfl rfl ?_
            refine J_iconst 70 dX9_cellsBarred_69 rfl ?_
            refine J_callVi 73 dX9_cellsBarred_70 rfl kX9_138 mX9_failed rfl rfl rfl (c_X9_failed) (by first | decide | omega) rfl rfl (Nat.le_of_ble_eq_true rfl) (fun z37 s38 h36 => ?_)
            obtain ⟨rfl, rfl⟩ := h36
            refine J_goto 77 dX9_cellsBarred_73 rfl ?_
            refine J_iret dX9_cellsBarred_77 rfl ?_
            first
              | (rw [show fR σ x l i n = 3 by unfold fR; rw [if_neg (by omega), if_neg (by omega), if_neg (by omega), if_pos (by omega)]]; exact ⟨rfl, rfl⟩)
              | (rw [show fR σ x l i n = 0 by unfold fR; rw [if_neg (by omega), if_neg (by omega), if_neg (by omega), if_neg (by omega)]]; exact ⟨rfl, rfl⟩)
        · refine J_aload_n (i := 0) 48 dX9_cellsBarred_47 rfl rfl rfl ?_
          refine J_iconst 49 dX9_cellsBarred_48 rfl ?_
          refine J_callVi 52 dX9_cellsBarred_49 rfl kX9_138 mX9_failed rfl rfl rfl (c_X9_failed) (by first | decide | omega) rfl rfl (Nat.le_of_ble_eq_true rfl) (fun z40 s41 h39 => ?_)
          obtain ⟨rfl, rfl⟩ := h39
          refine J_iret dX9_cellsBarred_52 rfl ?_
          rw [show fR σ x l i n = 4 by unfold fR; rw [if_neg (by omega), if_neg (by omega), if_pos (by omega)]]
          exact ⟨rfl, rfl⟩
      · refine J_aload_n (i := 0) 35 dX9_cellsBarred_34 rfl rfl rfl ?_
        refine J_iconst 36 dX9_cellsBarred_35 rfl ?_
        refine J_callVi 39 dX9_cellsBarred_36 rfl kX9_138 mX9_failed rfl rfl rfl (c_X9_failed) (by first | decide | omega) rfl rfl (Nat.le_of_ble_eq_true rfl) (fun z43 s44 h42 => ?_)
        obtain ⟨rfl, rfl⟩ := h42
        refine J_iret dX9_cellsBarred_39 rfl ?_
        rw [show fR σ x l i n = 1 by unfold fR; rw [if_neg (by omega), if_pos (by omega)]]
        exact ⟨rfl, rfl⟩
    · refine J_aload_n (i := 0) 20 dX9_cellsBarred_19 rfl rfl rfl ?_
      refine J_iconst 21 dX9_cellsBarred_20 rfl ?_
      refine J_callVi 24 dX9_cellsBarred_21 rfl kX9_138 mX9_failed rfl rfl rfl (c_X9_failed) (by first | decide | omega) rfl rfl (Nat.le_of_ble_eq_true rfl) (fun z46 s47 h45 => ?_)
      obtain ⟨rfl, rfl⟩ := h45
      refine J_iret dX9_cellsBarred_24 rfl ?_
      rw [show fR σ x l i n = 2 by unfold fR; rw [if_pos (by omega)]]
      exact ⟨rfl, rfl⟩
def rSheet (σ : jS) (k l n : Int) : jS := if ¬ (0 ≤ k ∧ k < 4) then jup σ 36 0 0 else if ¬ ((0 ≤ l ∧ l ≤ 2) ∧ n ≤ 60) then jup σ 36 0 0 else if n < 0 then jup σ 36 0 4 else jup (jset (jup (jup σ 61 k n) 62 k l) 63 (rngN (σ 63) (fun _ => 0) (60 * k) n)) 36 0 0
set_option maxHeartbeats 4000000 in
theorem l_X9_sheet (hx : 0 ≤ x ∧ x < 4) (hl : 0 ≤ l ∧ l ≤ 2) (hn : 0 ≤ n ∧ n ≤ 60) {F : Int → jS → Prop} (hK : F 1 (jup (jset σ 63 (rngN (σ 63) (fun _ => 0) (60 * x) n)) 36 0 0)) : ∀ (k i : Nat) (d : Int) (τ : jS), i + k = n.toNat → d = i → τ = jset σ 63 (rngN (σ 63) (fun _ => 0) (60 * x) d) → J P 3 (RX9, cX9_sheet, 5, some .int) 65 [some (vr P 36), some (vi x), some (vi l), some (vi n), some (vi d)] [] τ (qi F) := by
  intro k
  induction k with
  | zero =>
    intro i d τ hi hd hr
    have e : d = n := by omega
    refine J_iload 67 dX9_sheet_65 rfl rfl ?_
    refine J_iload_n (i := 3) 68 dX9_sheet_67 rfl rfl rfl ?_
    refine J_icmp_ge 90 71 dX9_sheet_68 rfl rfl (fun c1 => ?_) (fun c1 => ?_)
    · refine J_aload_n (i := 0) 91 dX9_sheet_90 rfl rfl rfl ?_
      refine J_iconst 92 dX9_sheet_91 rfl ?_
      refine J_callVi 95 dX9_sheet_92 rfl kX9_150 mX9_refused rfl rfl rfl (c_X9_refused) (by first | decide | omega) rfl rfl (Nat.le_of_ble_eq_true rfl) (fun z3 s4 h2 => ?_)
      obtain ⟨rfl, rfl⟩ := h2
      refine J_iret dX9_sheet_95 rfl ?_
      rw [hr, e]
      exact hK
    · exfalso; omega
  | succ k ih =>
    intro i d τ hi hd hr
    refine J_iload 67 dX9_sheet_65 rfl rfl ?_
    refine J_iload_n (i := 3) 68 dX9_sheet_67 rfl rfl rfl ?_
    refine J_icmp_ge 90 71 dX9_sheet_68 rfl rfl (fun c1 => ?_) (fun c1 => ?_)
    · exfalso; omega
    · refine J_aload_n (i := 0) 72 dX9_sheet_71 rfl rfl rfl ?_
      refine J_getR 75 dX9_sheet_72 rfl fX9_88 rfl rfl ?_
      refine J_bipush 77 dX9_sheet_75 rfl (by decide) ?_
      refine J_iload_n (i := 1) 78 dX9_sheet_77 rfl rfl rfl ?_
      refine J_imul 79 dX9_sheet_78 rfl ?_
      refine J_iload 81 dX9_sheet_79 rfl rfl ?_
      refine J_iadd 82 dX9_sheet_81 rfl ?_
      refine J_iconst 83 dX9_sheet_82 rfl ?_
      refine J_iast (N := 240) (lo := (-2147483648)) (hi := 2147483647) 84 dX9_sheet_83 rfl rfl rfl rfl ?_
      refine J_iinc 87 dX9_sheet_84 rfl (by decide) rfl ?_
      refine J_goto 65 dX9_sheet_87 rfl ?_
      refine ih (i + 1) _ _ (by omega) (by omega) ?_
      rw [hr]
      exact rng_up rfl (by omega) rfl
theorem c_X9_sheet (hx : inR x) (hl : inR l) (hn : inR n) : Ct P 3 yX9_sheet cX9_sheet 5 (some .int) [vr P 36, vi x, vi l, vi n] σ (rI (aSheet x l n) (rSheet σ x l n)) := by
  refine Ct.of _ rfl rfl rfl (Nat.le_of_ble_eq_true rfl) (fun hB => ?_)
  refine J_iload_n (i := 1) 1 dX9_sheet_0 rfl rfl rfl ?_
  refine J_callSi 4 dX9_sheet_1 rfl kX9_146 mX9_noSheet (c_X9_noSheet) (by first | decide | omega) rfl rfl (Nat.le_of_ble_eq_true rfl) (fun z2 s3 h1 => ?_)
  obtain ⟨rfl, rfl⟩ := h1
  refine J_bif_eq 13 7 dX9_sheet_4 rfl rfl (fun c4 => ?_) (fun c4 => ?_)
  · refine J_iload_n (i := 2) 14 dX9_sheet_13 rfl rfl rfl ?_
    refine J_i2l 15 dX9_sheet_14 rfl ?_
    refine J_lconst (z := 0) 16 dX9_sheet_15 rfl rfl ?_
    refine J_ldc2 19 dX9_sheet_16 rfl cstX9_153 ?_
    refine J_callSi 22 dX9_sheet_19 rfl kX9_107 mX9_in (c_X9_in) (by first | decide | omega) rfl rfl (Nat.le_of_ble_eq_true rfl) (fun z6 s7 h5 => ?_)
    obtain ⟨rfl, rfl⟩ := h5
    refine J_bif_eq 31 25 dX9_sheet_22 rfl rfl (fun c8 => ?_) (fun c8 => ?_)
    · refine J_aload_n (i := 0) 32 dX9_sheet_31 rfl rfl rfl ?_
      refine J_bipush 34 dX9_sheet_32 rfl (by decide) ?_
      refine J_callVi 37 dX9_sheet_34 rfl kX9_150 mX9_refused rfl rfl rfl (c_X9_refused) (by first | decide | omega) rfl rfl (Nat.le_of_ble_eq_true rfl) (fun z10 s11 h9 => ?_)
      obtain ⟨rfl, rfl⟩ := h9
      refine J_iret dX9_sheet_37 rfl ?_
      unfold aSheet rSheet
      refine ⟨?_, ?_⟩
      · first | rfl | (rw [if_pos (by omega)]; first | done | rfl) | (rw [if_neg (by omega)]; first | done | rfl) | (rw [if_neg (by omega), if_pos (by omega)]; first | done | rfl) | (rw [if_neg (by omega), if_neg (by omega)]; first | done | rfl) | (rw [if_neg (by omega), if_neg (by omega), if_pos (by omega)]; first | done | rfl) | (rw [if_neg (by omega), if_neg (by omega), if_neg (by omega)]; first | done | rfl) | (rw [if_neg (by omega), if_neg (by omega), if_neg (by omega), if_pos (by omega)]; first | done | rfl) | (rw [if_neg (by omega), if_neg (by omega), if_neg (by omega), if_neg (by omega)]; first | done | rfl) | (rw [if_neg (by omega), if_neg (by omega), if_neg (by omega), if_neg (by omega), if_pos (by omega)]; first | done | rfl) | (rw [if_neg (by omega), if_neg (by omega), if_neg (by omega), if_neg (by omega), if_neg (by omega)]; first | done | rfl)
      · first | rfl | (rw [if_pos (by omega)]; first | done | rfl) | (rw [if_neg (by omega)]; first | done | rfl) | (rw [if_neg (by omega), if_pos (by omega)]; first | done | rfl) | (rw [if_neg (by omega), if_neg (by omega)]; first | done | rfl) | (rw [if_neg (by omega), if_neg (by omega), if_pos (by omega)]; first | done | rfl) | (rw [if_neg (by omega), if_neg (by omega), if_neg (by omega)]; first | done | rfl) | (rw [if_neg (by omega), if_neg (by omega), if_neg (by omega), if_pos (by omega)]; first | done | rfl) | (rw [if_neg (by omega), if_neg (by omega), if_neg (by omega), if_neg (by omega)]; first | done | rfl) | (rw [if_neg (by omega), if_neg (by omega), if_neg (by omega), if_neg (by omega), if_pos (by omega)]; first | done | rfl) | (rw [if_neg (by omega), if_neg (by omega), if_neg (by omega), if_neg (by omega), if_neg (by omega)]; first | done | rfl)
    · refine J_iload_n (i := 3) 26 dX9_sheet_25 rfl rfl rfl ?_
      refine J_bipush 28 dX9_sheet_26 rfl (by decide) ?_
      refine J_icmp_le 38 31 dX9_sheet_28 rfl rfl (fun c12 => ?_) (fun c12 => ?_)
      · refine J_iload_n (i := 3) 39 dX9_sheet_38 rfl rfl rfl ?_
        refine J_if_ge 48 42 dX9_sheet_39 rfl rfl (fun c13 => ?_) (fun c13 => ?_)
        · refine J_aload_n (i := 0) 49 dX9_sheet_48 rfl rfl rfl ?_
          refine J_getR 52 dX9_sheet_49 rfl fX9_82 rfl rfl ?_
          refine J_iload_n (i := 1) 53 dX9_sheet_52 rfl rfl rfl ?_
          refine J_iload_n (i := 3) 54 dX9_sheet_53 rfl rfl rfl ?_
          refine J_iast (N := 4) (lo := (-1)) (hi := 60) 55 dX9_sheet_54 rfl rfl rfl rfl ?_
          refine J_aload_n (i := 0) 56 dX9_sheet_55 rfl rfl rfl ?_
          refine J_getR 59 dX9_sheet_56 rfl fX9_85 rfl rfl ?_
          refine J_iload_n (i := 1) 60 dX9_sheet_59 rfl rfl rfl ?_
          refine J_iload_n (i := 2) 61 dX9_sheet_60 rfl rfl rfl ?_
          refine J_iast (N := 4) (lo := 0) (hi := 2) 62 dX9_sheet_61 rfl rfl rfl rfl ?_
          refine J_iconst 63 dX9_sheet_62 rfl ?_
          refine J_istore 65 dX9_sheet_63 rfl (by decide) ?_
          refine l_X9_sheet (x := x) (l := l) (n := n) (by omega) (by omega) (by omega) ?_ _ 0 _ _ (Nat.zero_add _) rfl (rng_0 _ _ _ _).symm
          unfold aSheet rSheet
          rw [if_neg (by omega), if_neg (by omega), if_neg (by omega), if_neg (by omega), if_neg (by omega), if_neg (by omega)]
          exact ⟨rfl, rfl⟩
        · refine J_aload_n (i := 0) 43 dX9_sheet_42 rfl rfl rfl ?_
          refine J_iconst 44 dX9_sheet_43 rfl ?_
          refine J_callVi 47 dX9_sheet_44 rfl kX9_138 mX9_failed rfl rfl rfl (c_X9_failed) (by first | decide | omega) rfl rfl (Nat.le_of_ble_eq_true rfl) (fun z15 s16 h14 => ?_)
          obtain ⟨rfl, rfl⟩ := h14
          refine J_iret dX9_sheet_47 rfl ?_
          unfold aSheet rSheet
          refine ⟨?_, ?_⟩
          · first | rfl | (rw [if_pos (by omega)]; first | done | rfl) | (rw [if_neg (by omega)]; first | done | rfl) | (rw [if_neg (by omega), if_pos (by omega)]; first | done | rfl) | (rw [if_neg (by omega), if_neg (by omega)]; first | done | rfl) | (rw [if_neg (by omega), if_neg (by omega), if_pos (by omega)]; first | done | rfl) | (rw [if_neg (by omega), if_neg (by omega), if_neg (by omega)]; first | done | rfl) | (rw [if_neg (by omega), if_neg (by omega), if_neg (by omega), if_pos (by omega)]; first | done | rfl) | (rw [if_neg (by omega), if_neg (by omega), if_neg (by omega), if_neg (by omega)]; first | done | rfl) | (rw [if_neg (by omega), if_neg (by omega), if_neg (by omega), if_neg (by omega), if_pos (by omega)]; first | done | rfl) | (rw [if_neg (by omega), if_neg (by omega), if_neg (by omega), if_neg (by omega), if_neg (by omega)]; first | done | rfl)
          · first | rfl | (rw [if_pos (by omega)]; first | done | rfl) | (rw [if_neg (by omega)]; first | done | rfl) | (rw [if_neg (by omega), if_pos (by omega)]; first | done | rfl) | (rw [if_neg (by omega), if_neg (by omega)]; first | done | rfl) | (rw [if_neg (by omega), if_neg (by omega), if_pos (by omega)]; first | done | rfl) | (rw [if_neg (by omega), if_neg (by omega), if_neg (by omega)]; first | done | rfl) | (rw [if_neg (by omega), if_neg (by omega), if_neg (by omega), if_pos (by omega)]; first | done | rfl) | (rw [if_neg (by omega), if_neg (by omega), if_neg (by omega), if_neg (by omega)]; first | done | rfl) | (rw [if_neg (by omega), if_neg (by omega), if_neg (by omega), if_neg (by omega), if_pos (by omega)]; first | done | rfl) | (rw [if_neg (by omega), if_neg (by omega), if_neg (by omega), if_neg (by omega), if_neg (by omega)]; first | done | rfl)
      · refine J_aload_n (i := 0) 32 dX9_sheet_31 rfl rfl rfl ?_
        refine J_bipush 34 dX9_sheet_32 rfl (by decide) ?_
        refine J_callVi 37 dX9_sheet_34 rfl kX9_150 mX9_refused rfl rfl rfl (c_X9_refused) (by first | decide | omega) rfl rfl (Nat.le_of_ble_eq_true rfl) (fun z18 s19 h17 => ?_)
        obtain ⟨rfl, rfl⟩ := h17
        refine J_iret dX9_sheet_37 rfl ?_
        unfold aSheet rSheet
        refine ⟨?_, ?_⟩
        · first | rfl | (rw [if_pos (by omega)]; first | done | rfl) | (rw [if_neg (by omega)]; first | done | rfl) | (rw [if_neg (by omega), if_pos (by omega)]; first | done | rfl) | (rw [if_neg (by omega), if_neg (by omega)]; first | done | rfl) | (rw [if_neg (by omega), if_neg (by omega), if_pos (by omega)]; first | done | rfl) | (rw [if_neg (by omega), if_neg (by omega), if_neg (by omega)]; first | done | rfl) | (rw [if_neg (by omega), if_neg (by omega), if_neg (by omega), if_pos (by omega)]; first | done | rfl) | (rw [if_neg (by omega), if_neg (by omega), if_neg (by omega), if_neg (by omega)]; first | done | rfl) | (rw [if_neg (by omega), if_neg (by omega), if_neg (by omega), if_neg (by omega), if_pos (by omega)]; first | done | rfl) | (rw [if_neg (by omega), if_neg (by omega), if_neg (by omega), if_neg (by omega), if_neg (by omega)]; first | done | rfl)
        · first | rfl | (rw [if_pos (by omega)]; first | done | rfl) | (rw [if_neg (by omega)]; first | done | rfl) | (rw [if_neg (by omega), if_pos (by omega)]; first | done | rfl) | (rw [if_neg (by omega), if_neg (by omega)]; first | done | rfl) | (rw [if_neg (by omega), if_neg (by omega), if_pos (by omega)]; first | done | rfl) | (rw [if_neg (by omega), if_neg (by omega), if_neg (by omega)]; first | done | rfl) | (rw [if_neg (by omega), if_neg (by omega), if_neg (by omega), if_pos (by omega)]; first | done | rfl) | (rw [if_neg (by omega), if_neg (by omega), if_neg (by omega), if_neg (by omega)]; first | done | rfl) | (rw [if_neg (by omega), if_neg (by omega), if_neg (by omega), if_neg (by omega), if_pos (by omega)]; first | done | rfl) | (rw [if_neg (by omega), if_neg (by omega), if_neg (by omega), if_neg (by omega), if_neg (by omega)]; first | done | rfl)
  · refine J_aload_n (i := 0) 8 dX9_sheet_7 rfl rfl rfl ?_
    refine J_iconst 9 dX9_sheet_8 rfl ?_
    refine J_callVi 12 dX9_sheet_9 rfl kX9_150 mX9_refused rfl rfl rfl (c_X9_refused) (by first | decide | omega) rfl rfl (Nat.le_of_ble_eq_true rfl) (fun z21 s22 h20 => ?_)
    obtain ⟨rfl, rfl⟩ := h20
    refine J_iret dX9_sheet_12 rfl ?_
    unfold aSheet rSheet
    refine ⟨?_, ?_⟩
    · first | rfl | (rw [if_pos (by omega)]; first | done | rfl) | (rw [if_neg (by omega)]; first | done | rfl) | (rw [if_neg (by omega), if_pos (by omega)]; first | done | rfl) | (rw [if_neg (by omega), if_neg (by omega)]; first | done | rfl) | (rw [if_neg (by omega), if_neg (by omega), if_pos (by omega)]; first | done | rfl) | (rw [if_neg (by omega), if_neg (by omega), if_neg (by omega)]; first | done | rfl) | (rw [if_neg (by omega), if_neg (by omega), if_neg (by omega), if_pos (by omega)]; first | done | rfl) | (rw [if_neg (by omega), if_neg (by omega), if_neg (by omega), if_neg (by omega)]; first | done | rfl) | (rw [if_neg (by omega), if_neg (by omega), if_neg (by omega), if_neg (by omega), if_pos (by omega)]; first | done | rfl) | (rw [if_neg (by omega), if_neg (by omega), if_neg (by omega), if_neg (by omega), if_neg (by omega)]; first | done | rfl)
    · first | rfl | (rw [if_pos (by omega)]; first | done | rfl) | (rw [if_neg (by omega)]; first | done | rfl) | (rw [if_neg (by omega), if_pos (by omega)]; first | done | rfl) | (rw [if_neg (by omega), if_neg (by omega)]; first | done | rfl) | (rw [if_neg (by omega), if_neg (by omega), if_pos (by omega)]; first | done | rfl) | (rw [if_neg (by omega), if_neg (by omega), if_neg (by omega)]; first | done | rfl) | (rw [if_neg (by omega), if_neg (by omega), if_neg (by omega), if_pos (by omega)]; first | done | rfl) | (rw [if_neg (by omega), if_neg (by omega), if_neg (by omega), if_neg (by omega)]; first | done | rfl) | (rw [if_neg (by omega), if_neg (by omega), if_neg (by omega), if_neg (by omega), if_pos (by omega)]; first | done | rfl) | (rw [if_neg (by omega), if_neg (by omega), if_neg (by omega), if_neg (by omega), if_neg (by omega)]; first | done | rfl)
theorem bm8 (y : Int) : -128 ≤ y.bmod 256 ∧ y.bmod 256 ≤ 127 := by
  have h1 := Int.le_bmod (x := y) (m := 256) (by decide)
  have h2 := Int.bmod_lt (x := y) (m := 256) (by decide)
  omega
theorem bm16 (y : Int) : -32768 ≤ y.bmod 65536 ∧ y.bmod 65536 ≤ 32767 := by
  have h1 := Int.le_bmod (x := y) (m := 65536) (by decide)
  have h2 := Int.bmod_lt (x := y) (m := 65536) (by decide)
  omega
def rPut (σ : jS) (k i v : Int) : jS := if ¬ (0 ≤ k ∧ k < 4) then jup σ 36 0 0 else if σ 61 k < 0 then jup σ 36 0 1 else if ¬ (0 ≤ i ∧ i < σ 61 k) then jup σ 36 0 3 else jup (jup σ 63 (60 * k + i) (cutM (σ 62 k) v)) 36 0 0
def eRPut (σ : jS) (k i : Int) : Int := if ¬ (0 ≤ k ∧ k < 4) then -1 else if σ 61 k < 0 then -10 - 1 else if ¬ (0 ≤ i ∧ i < σ 61 k) then -10 - 3 else 1
theorem c_X9_put (hx : inR x) (hi : inR i) (hy : inR y) : Ct P 3 yX9_put cX9_put 4 (some .int) [vr P 36, vi x, vi i, vi y] σ (rI (eRPut σ x i) (rPut σ x i y)) := by
  refine Ct.bd (fun hB => ?_)
  have h61 : -1 ≤ σ 61 x ∧ σ 61 x ≤ 60 := hB 61 x
  have h62 : 0 ≤ σ 62 x ∧ σ 62 x ≤ 2 := hB 62 x
  have q1 := bm8 y
  have q2 := bm16 y
  refine Ct.of _ rfl rfl rfl (Nat.le_of_ble_eq_true rfl) (fun hB => ?_)
  refine J_iload_n (i := 1) 1 dX9_put_0 rfl rfl rfl ?_
  refine J_callSi 4 dX9_put_1 rfl kX9_146 mX9_noSheet (c_X9_noSheet) (by first | decide | omega) rfl rfl (Nat.le_of_ble_eq_true rfl) (fun z2 s3 h1 => ?_)
  obtain ⟨rfl, rfl⟩ := h1
  refine J_bif_eq 13 7 dX9_put_4 rfl rfl (fun c4 => ?_) (fun c4 => ?_)
  · refine J_aload_n (i := 0) 14 dX9_put_13 rfl rfl rfl ?_
    refine J_iload_n (i := 1) 15 dX9_put_14 rfl rfl rfl ?_
    refine J_iload_n (i := 2) 16 dX9_put_15 rfl rfl rfl ?_
    refine J_callVi 19 dX9_put_16 rfl kX9_305 mX9_noCell rfl rfl rfl (c_X9_noCell) (by first | decide | omega) rfl rfl (Nat.le_of_ble_eq_true rfl) (fun z6 s7 h5 => ?_)
    obtain ⟨rfl, rfl⟩ := h5
    have hnc : (if σ 61 x < 0 then (1 : Int) else if 0 ≤ i ∧ i < σ 61 x then 0 else 3) = 1 ∧ σ 61 x < 0 ∨ (if σ 61 x < 0 then (1 : Int) else if 0 ≤ i ∧ i < σ 61 x then 0 else 3) = 3 ∧ 0 ≤ σ 61 x ∧ ¬ (0 ≤ i ∧ i < σ 61 x) ∨ (if σ 61 x < 0 then (1 : Int) else if 0 ≤ i ∧ i < σ 61 x then 0 else 3) = 0 ∧ 0 ≤ σ 61 x ∧ (0 ≤ i ∧ i < σ 61 x) := by
      split
      · exact Or.inl ⟨rfl, by assumption⟩
      · split
        · exact Or.inr (Or.inr ⟨rfl, by omega, by assumption⟩)
        · exact Or.inr (Or.inl ⟨rfl, by omega, by assumption⟩)
    generalize hnv : (if σ 61 x < 0 then (1 : Int) else if 0 ≤ i ∧ i < σ 61 x then 0 else 3) = nv at hnc
    refine J_if_le 33 22 dX9_put_19 rfl rfl (fun c8 => ?_) (fun c8 => ?_)
    · refine J_aload_n (i := 0) 34 dX9_put_33 rfl rfl rfl ?_
      refine J_getR 37 dX9_put_34 rfl fX9_88 rfl rfl ?_
      refine J_bipush 39 dX9_put_37 rfl (by decide) ?_
      refine J_iload_n (i := 1) 40 dX9_put_39 rfl rfl rfl ?_
      refine J_imul 41 dX9_put_40 rfl ?_
      refine J_iload_n (i := 2) 42 dX9_put_41 rfl rfl rfl ?_
      refine J_iadd 43 dX9_put_42 rfl ?_
      refine J_aload_n (i := 0) 44 dX9_put_43 rfl rfl rfl ?_
      refine J_getR 47 dX9_put_44 rfl fX9_85 rfl rfl ?_
      refine J_iload_n (i := 1) 48 dX9_put_47 rfl rfl rfl ?_
      refine J_iald (N := 4) (lo := 0) (hi := 2) 49 dX9_put_48 rfl rfl rfl rfl (fun b9 b10 => ?_)
      refine J_if_ne 57 52 dX9_put_49 rfl rfl (fun c11 => ?_) (fun c11 => ?_)
      · refine J_aload_n (i := 0) 58 dX9_put_57 rfl rfl rfl ?_
        refine J_getR 61 dX9_put_58 rfl fX9_85 rfl rfl ?_
        refine J_iload_n (i := 1) 62 dX9_put_61 rfl rfl rfl ?_
        refine J_iald (N := 4) (lo := 0) (hi := 2) 63 dX9_put_62 rfl rfl rfl rfl (fun b12 b13 => ?_)
        refine J_iconst 64 dX9_put_63 rfl ?_
        refine J_icmp_ne 72 67 dX9_put_64 rfl rfl (fun c14 => ?_) (fun c14 => ?_)
        · refine J_iload_n (i := 3) 73 dX9_put_72 rfl rfl rfl ?_
          refine J_iast (N := 240) (lo := (-2147483648)) (hi := 2147483647) 74 dX9_put_73 rfl rfl rfl rfl ?_
          refine J_aload_n (i := 0) 75 dX9_put_74 rfl rfl rfl ?_
          refine J_iconst 76 dX9_put_75 rfl ?_
          refine J_callVi 79 dX9_put_76 rfl kX9_150 mX9_refused rfl rfl rfl (c_X9_refused) (by first | decide | omega) rfl rfl (Nat.le_of_ble_eq_true rfl) (fun z16 s17 h15 => ?_)
          obtain ⟨rfl, rfl⟩ := h15
          refine J_iret dX9_put_79 rfl ?_
          unfold eRPut rPut
          rw [if_neg (by omega), if_neg (by omega), if_neg (by omega), if_neg (by omega), if_neg (by omega), if_neg (by omega)]
          refine ⟨rfl, ?_⟩
          unfold cutM
          first | (rw [if_pos (by omega)]; done) | (rw [if_neg (by omega), if_pos (by omega)]; done) | (rw [if_neg (by omega), if_neg (by omega)]; done)
        · refine J_iload_n (i := 3) 68 dX9_put_67 rfl rfl rfl ?_
          refine J_i2s 69 dX9_put_68 rfl ?_
          refine J_goto 73 dX9_put_69 rfl ?_
          refine J_iast (N := 240) (lo := (-2147483648)) (hi := 2147483647) 74 dX9_put_73 rfl rfl rfl rfl ?_
          refine J_aload_n (i := 0) 75 dX9_put_74 rfl rfl rfl ?_
          refine J_iconst 76 dX9_put_75 rfl ?_
          refine J_callVi 79 dX9_put_76 rfl kX9_150 mX9_refused rfl rfl rfl (c_X9_refused) (by first | decide | omega) rfl rfl (Nat.le_of_ble_eq_true rfl) (fun z19 s20 h18 => ?_)
          obtain ⟨rfl, rfl⟩ := h18
          refine J_iret dX9_put_79 rfl ?_
          unfold eRPut rPut
          rw [if_neg (by omega), if_neg (by omega), if_neg (by omega), if_neg (by omega), if_neg (by omega), if_neg (by omega)]
          refine ⟨rfl, ?_⟩
          unfold cutM
          first | (rw [if_pos (by omega)]; done) | (rw [if_neg (by omega), if_pos (by omega)]; done) | (rw [if_neg (by omega), if_neg (by omega)]; done)
      · refine J_iload_n (i := 3) 53 dX9_put_52 rfl rfl rfl ?_
        refine J_i2b 54 dX9_put_53 rfl ?_
        refine J_goto 73 dX9_put_54 rfl ?_
        refine J_iast (N := 240) (lo := (-2147483648)) (hi := 2147483647) 74 dX9_put_73 rfl rfl rfl rfl ?_
        refine J_aload_n (i := 0) 75 dX9_put_74 rfl rfl rfl ?_
        refine J_iconst 76 dX9_put_75 rfl ?_
        refine J_callVi 79 dX9_put_76 rfl kX9_150 mX9_refused rfl rfl rfl (c_X9_refused) (by first | decide | omega) rfl rfl (Nat.le_of_ble_eq_true rfl) (fun z22 s23 h21 => ?_)
        obtain ⟨rfl, rfl⟩ := h21
        refine J_iret dX9_put_79 rfl ?_
        unfold eRPut rPut
        rw [if_neg (by omega), if_neg (by omega), if_neg (by omega), if_neg (by omega), if_neg (by omega), if_neg (by omega)]
        refine ⟨rfl, ?_⟩
        unfold cutM
        first | (rw [if_pos (by omega)]; done) | (rw [if_neg (by omega), if_pos (by omega)]; done) | (rw [if_neg (by omega), if_neg (by omega)]; done)
    · refine J_aload_n (i := 0) 23 dX9_put_22 rfl rfl rfl ?_
      refine J_aload_n (i := 0) 24 dX9_put_23 rfl rfl rfl ?_
      refine J_iload_n (i := 1) 25 dX9_put_24 rfl rfl rfl ?_
      refine J_iload_n (i := 2) 26 dX9_put_25 rfl rfl rfl ?_
      refine J_callVi 29 dX9_put_26 rfl kX9_305 mX9_noCell rfl rfl rfl (c_X9_noCell) (by first | decide | omega) rfl rfl (Nat.le_of_ble_eq_true rfl) (fun z25 s26 h24 => ?_)
      obtain ⟨rfl, rfl⟩ := h24
      rw [hnv]
      refine J_callVi 32 dX9_put_29 rfl kX9_138 mX9_failed rfl rfl rfl (c_X9_failed) (by first | decide | omega) rfl rfl (Nat.le_of_ble_eq_true rfl) (fun z28 s29 h27 => ?_)
      obtain ⟨rfl, rfl⟩ := h27
      refine J_iret dX9_put_32 rfl ?_
      unfold eRPut rPut
      rcases hnc with ⟨rfl, h⟩ | ⟨rfl, h⟩ | ⟨rfl, h⟩
      · rw [if_neg (by omega), if_pos (by omega), if_neg (by omega), if_pos (by omega)]
        exact ⟨rfl, rfl⟩
      · rw [if_neg (by omega), if_neg (by omega), if_pos (by omega), if_neg (by omega), if_neg (by omega), if_pos (by omega)]
        exact ⟨rfl, rfl⟩
      · exfalso; omega
  · refine J_aload_n (i := 0) 8 dX9_put_7 rfl rfl rfl ?_
    refine J_iconst 9 dX9_put_8 rfl ?_
    refine J_callVi 12 dX9_put_9 rfl kX9_150 mX9_refused rfl rfl rfl (c_X9_refused) (by first | decide | omega) rfl rfl (Nat.le_of_ble_eq_true rfl) (fun z31 s32 h30 => ?_)
    obtain ⟨rfl, rfl⟩ := h30
    refine J_iret dX9_put_12 rfl ?_
    unfold eRPut rPut
    exact ⟨if_pos (by omega), if_pos (by omega)⟩
end

