/-! ===== who knows whom ===== -/
def bitM (s d : Int) : Int := iand ((s.toNat / 2 ^ d.toNat : Nat) : Int) 1
def orN (kn : Int → Int) (s : Int) : Nat → Int
  | 0 => 0
  | n + 1 => if iand ((s.toNat / 2 ^ ((n : Nat) : Int).toNat : Nat) : Int) 1 = 1 then ior (orN kn s n) (kn (n : Int)) else orN kn s n
theorem ior_b {a b : Int} (ha : 0 ≤ a ∧ a ≤ 63) (hb : 0 ≤ b ∧ b ≤ 63) : 0 ≤ ior a b ∧ ior a b ≤ 63 := by
  unfold ior
  have h1 : a.toNat < 2 ^ 6 := by omega
  have h2 : b.toNat < 2 ^ 6 := by omega
  have h3 := Nat.or_lt_two_pow h1 h2
  omega
theorem ixor_b {a b : Int} (ha : 0 ≤ a ∧ a ≤ 63) (hb : 0 ≤ b ∧ b ≤ 63) : 0 ≤ ixor a b ∧ ixor a b ≤ 63 := by
  unfold ixor
  have h1 : a.toNat < 2 ^ 6 := by omega
  have h2 : b.toNat < 2 ^ 6 := by omega
  have h3 := Nat.xor_lt_two_pow h1 h2
  omega
theorem orN_b {kn : Int → Int} (h : ∀ j, 0 ≤ kn j ∧ kn j ≤ 63) (s : Int) (n : Nat) : 0 ≤ orN kn s n ∧ orN kn s n ≤ 63 := by
  induction n with
  | zero => simp [orN]
  | succ n ih =>
    simp only [orN]
    split
    · exact ior_b ih (h _)
    · exact ih
/-- how far: from the set s on, at step t -/
def farN (kn : Int → Int) (d : Int) : Nat → Int → Int → Int
  | 0, _, _ => -9
  | k + 1, s, t => if iand ((s.toNat / 2 ^ d.toNat : Nat) : Int) 1 = 1 then t else farN kn d k (ior s (orN kn s 6)) (t + 1)
def farM (kn : Int → Int) (c d : Int) : Int := farN kn d 6 (2 ^ c.toNat) 0
theorem pow_32 {c : Int} (h : 0 ≤ c ∧ c < 6) : 0 < (2 : Int) ^ c.toNat ∧ (2 : Int) ^ c.toNat ≤ 32 := by
  have key : ∀ n : Fin 6, 0 < (2 : Int) ^ n.val ∧ (2 : Int) ^ n.val ≤ 32 := by decide
  exact key ⟨c.toNat, by omega⟩
theorem farN_b (kn : Int → Int) (d : Int) : ∀ (k : Nat) (s t : Int), 0 ≤ t → t + k ≤ 6 → -9 ≤ farN kn d k s t ∧ farN kn d k s t ≤ 6 ∧ (farN kn d k s t = -9 ∨ 0 ≤ farN kn d k s t) := by
  intro k
  induction k with
  | zero => intro s t h1 h2; simp [farN]
  | succ k ih =>
    intro s t h1 h2
    simp only [farN]
    split
    · omega
    · exact ih _ _ (by omega) (by omega)
/-! ===== rows that are filled place by place ===== -/
def mixN (g f : Int → Int) (i : Nat) (j : Int) : Int := if 0 ≤ j ∧ j < i then g j else f j
theorem mix_up {σ : jS} {q i : Nat} {g f : Int → Int} {z : Int} (hz : z = g i) : jup (jset σ q (mixN g f i)) q i z = jset σ q (mixN g f (i + 1)) := by
  funext k2 j2
  unfold jup jset mixN
  by_cases e : k2 = q
  · rw [if_pos e, if_pos e, if_pos e]
    by_cases e2 : j2 = i
    · rw [if_pos e2, if_pos (by omega), hz, e2]
    · rw [if_neg e2]
      by_cases e3 : 0 ≤ j2 ∧ j2 < i
      · rw [if_pos e3, if_pos (by omega)]
      · rw [if_neg e3, if_neg (by omega)]
  · rw [if_neg e, if_neg e, if_neg e]
theorem mix_0 (σ : jS) (q : Nat) (g : Int → Int) : σ = jset σ q (mixN g (σ q) 0) := by
  funext k2 j2
  unfold jset mixN
  by_cases e : k2 = q
  · rw [if_pos e, if_neg (by omega), e]
  · rw [if_neg e]
theorem mix_all {σ : jS} {q n : Nat} {g f : Int → Int} (hq : jkd q = 10) (hn : jln q = n) : jEq (jset σ q g) (jset σ q (mixN g f n)) := by
  rw [← jset_set σ q (mixN g f n) g]
  refine jEq_set (fun _ j hj => ?_) (fun h => by omega)
  unfold jset mixN
  rw [if_pos rfl, if_pos (by omega)]
section
variable {P : jP} {w o : Nat} {c d g x y z n : Int} {σ : jS}
set_option maxHeartbeats 4000000 in
theorem l_X0_forget : ∀ (k i : Nat) (d : Int) (τ : jS), i + k = 6 → d = i → τ = jset σ 17 (mixN (fun _ => 0) (σ 17) i) → J P 1 (RX0, cX0_forget, 2, none) 2 [some (vr P 16), some (vi d)] [] τ (rV (jset σ 17 (fun _ => 0))) := by
  intro k
  induction k with
  | zero =>
    intro i d τ hi hd hτ
    refine J_iload_n (i := 1) 3 dX0_forget_2 rfl rfl rfl ?_
    refine J_bipush 5 dX0_forget_3 rfl (by decide) ?_
    refine J_icmp_ge 21 8 dX0_forget_5 rfl rfl (fun c1 => ?_) (fun c1 => ?_)
    · subst hτ
      rw [Nat.add_zero] at hi
      subst hi
      refine J.norm (mix_all rfl rfl) (fun B => ?_) (J_vret dX0_forget_21 rfl rfl)
      rw [← jset_set σ 17 (mixN (fun _ => 0) (σ 17) 6)]
      exact jBd_set B (fun j => ⟨Int.le_refl 0, by show (0 : Int) ≤ 63; omega⟩)
    · exfalso; omega
  | succ k ih =>
    intro i d τ hi hd hτ
    refine J_iload_n (i := 1) 3 dX0_forget_2 rfl rfl rfl ?_
    refine J_bipush 5 dX0_forget_3 rfl (by decide) ?_
    refine J_icmp_ge 21 8 dX0_forget_5 rfl rfl (fun c1 => ?_) (fun c1 => ?_)
    · exfalso; omega
    · refine J_aload_n (i := 0) 9 dX0_forget_8 rfl rfl rfl ?_
      refine J_getR 12 dX0_forget_9 rfl fX0_9 rfl rfl ?_
      refine J_iload_n (i := 1) 13 dX0_forget_12 rfl rfl rfl ?_
      refine J_iconst 14 dX0_forget_13 rfl ?_
      refine J_iast (N := 6) (lo := 0) (hi := 63) 15 dX0_forget_14 rfl rfl rfl rfl ?_
      refine J_iinc 18 dX0_forget_15 rfl (by decide) rfl ?_
      refine J_goto 2 dX0_forget_18 rfl ?_
      refine ih (i + 1) _ _ (by omega) (by omega) ?_
      subst hτ hd
      exact mix_up rfl
theorem c_X0_forget : Ct P 1 yX0_forget cX0_forget 2 none [vr P 16] σ (rV (jset σ 17 (fun _ => 0))) := by
  refine Ct.of _ rfl rfl rfl (Nat.le_of_ble_eq_true rfl) (fun hB => ?_)
  refine J_iconst 1 dX0_forget_0 rfl ?_
  refine J_istore_n (i := 1) 2 dX0_forget_1 rfl rfl (by decide) ?_
  exact l_X0_forget 6 0 _ _ rfl rfl (mix_0 _ _ _)
theorem c_X0_turn (hc : 0 ≤ c ∧ c < 6 := by omega) (hd : 0 ≤ d ∧ d < 6 := by omega) : Ct P 1 yX0_turn cX0_turn 3 (some .int) [vr P 16, vi c, vi d] σ (rI (bitM (ixor (σ 17 c) (2 ^ d.toNat)) d) (jup σ 17 c (ixor (σ 17 c) (2 ^ d.toNat)))) := by
  have hp := pow_32 hd
  refine Ct.bd (fun hB => ?_)
  have hk6 : 0 ≤ σ 17 c ∧ σ 17 c ≤ 63 := hB 17 c
  have hx := ixor_b hk6 (b := 2 ^ d.toNat) (by omega)
  have hs := sh_b (a := (ixor (σ 17 c) (2 ^ d.toNat)).toNat) d (by omega)
  refine Ct.of _ rfl rfl rfl (Nat.le_of_ble_eq_true rfl) (fun hB => ?_)
  refine J_aload_n (i := 0) 1 dX0_turn_0 rfl rfl rfl ?_
  refine J_getR 4 dX0_turn_1 rfl fX0_9 rfl rfl ?_
  refine J_iload_n (i := 1) 5 dX0_turn_4 rfl rfl rfl ?_
  refine J_dup2 6 dX0_turn_5 rfl rfl rfl ?_
  refine J_iald (N := 6) (lo := 0) (hi := 63) 7 dX0_turn_6 rfl rfl rfl rfl (fun b1 b2 => ?_)
  refine J_iconst 8 dX0_turn_7 rfl ?_
  refine J_iload_n (i := 2) 9 dX0_turn_8 rfl rfl rfl ?_
  refine J_ishl1 10 dX0_turn_9 rfl ?_
  refine J_ixor 11 dX0_turn_10 rfl ?_
  refine J_iast (N := 6) (lo := 0) (hi := 63) 12 dX0_turn_11 rfl rfl rfl rfl ?_
  refine J_aload_n (i := 0) 13 dX0_turn_12 rfl rfl rfl ?_
  refine J_getR 16 dX0_turn_13 rfl fX0_9 rfl rfl ?_
  refine J_iload_n (i := 1) 17 dX0_turn_16 rfl rfl rfl ?_
  refine J_iald (N := 6) (lo := 0) (hi := 63) 18 dX0_turn_17 rfl rfl rfl rfl (fun b3 b4 => ?_)
  try simp only [jup, jset, ↓reduceIte] at b3 b4 ⊢
  refine J_iload_n (i := 2) 19 dX0_turn_18 rfl rfl rfl ?_
  refine J_ishr 20 dX0_turn_19 rfl ?_
  refine J_iconst 21 dX0_turn_20 rfl ?_
  refine J_iand 22 dX0_turn_21 rfl ?_
  refine J_iret dX0_turn_22 rfl ?_
  exact ⟨rfl, rfl⟩
set_option maxHeartbeats 4000000 in
theorem l_X0_knownToAnyOf (hx : 0 ≤ x ∧ x ≤ 63) : ∀ (k i : Nat) (d r : Int), i + k = 6 → d = i → r = orN (σ 17) x i → J P 1 (RX0, cX0_knownToAnyOf, 4, some .int) 4 [some (vr P 16), some (vi x), some (vi r), some (vi d)] [] σ (rI (orN (σ 17) x 6) σ) := by
  intro k
  induction k with
  | zero =>
    intro i d r hi hd hr
    refine J.bd (fun hB => ?_)
    have hk6 : ∀ j, 0 ≤ σ 17 j ∧ σ 17 j ≤ 63 := fun j => hB 17 j
    have hob := orN_b hk6 x i
    have hdv := sh_b (a := x.toNat) d (by omega)
    have hbb := bit_b (x.toNat / 2 ^ d.toNat)
    (
      refine J_iload_n (i := 3) 5 dX0_knownToAnyOf_4 rfl rfl rfl ?_
      refine J_bipush 7 dX0_knownToAnyOf_5 rfl (by decide) ?_
      refine J_icmp_ge 34 10 dX0_knownToAnyOf_7 rfl rfl (fun c1 => ?_) (fun c1 => ?_)
      · refine J_iload_n (i := 2) 35 dX0_knownToAnyOf_34 rfl rfl rfl ?_
        refine J_iret dX0_knownToAnyOf_35 rfl ?_
        refine ⟨?_, rfl⟩
        subst hr
        rw [Nat.add_zero] at hi
        rw [hi]
      · exfalso; omega
    )
  | succ k ih =>
    intro i d r hi hd hr
    refine J.bd (fun hB => ?_)
    have hk6 : ∀ j, 0 ≤ σ 17 j ∧ σ 17 j ≤ 63 := fun j => hB 17 j
    have hob := orN_b hk6 x i
    have hdv := sh_b (a := x.toNat) d (by omega)
    have hbb := bit_b (x.toNat / 2 ^ d.toNat)
    (
      refine J_iload_n (i := 3) 5 dX0_knownToAnyOf_4 rfl rfl rfl ?_
      refine J_bipush 7 dX0_knownToAnyOf_5 rfl (by decide) ?_
      refine J_icmp_ge 34 10 dX0_knownToAnyOf_7 rfl rfl (fun c1 => ?_) (fun c1 => ?_)
      · exfalso; omega
      · refine J_iload_n (i := 1) 11 dX0_knownToAnyOf_10 rfl rfl rfl ?_
        refine J_iload_n (i := 3) 12 dX0_knownToAnyOf_11 rfl rfl rfl ?_
        refine J_ishr 13 dX0_knownToAnyOf_12 rfl ?_
        refine J_iconst 14 dX0_knownToAnyOf_13 rfl ?_
        refine J_iand 15 dX0_knownToAnyOf_14 rfl ?_
        refine J_iconst 16 dX0_knownToAnyOf_15 rfl ?_
        refine J_icmp_ne 28 19 dX0_knownToAnyOf_16 rfl rfl (fun c2 => ?_) (fun c2 => ?_)
        · refine J_iinc 31 dX0_knownToAnyOf_28 rfl (by decide) rfl ?_
          refine J_goto 4 dX0_knownToAnyOf_31 rfl ?_
          refine ih (i + 1) _ _ (by omega) (by omega) ?_
          subst hd hr
          simp only [orN]
          first | (rw [if_pos (by omega)]; done) | (rw [if_neg (by omega)]; done)
        · refine J_iload_n (i := 2) 20 dX0_knownToAnyOf_19 rfl rfl rfl ?_
          refine J_aload_n (i := 0) 21 dX0_knownToAnyOf_20 rfl rfl rfl ?_
          refine J_getR 24 dX0_knownToAnyOf_21 rfl fX0_9 rfl rfl ?_
          refine J_iload_n (i := 3) 25 dX0_knownToAnyOf_24 rfl rfl rfl ?_
          refine J_iald (N := 6) (lo := 0) (hi := 63) 26 dX0_knownToAnyOf_25 rfl rfl rfl rfl (fun b3 b4 => ?_)
          refine J_ior 27 dX0_knownToAnyOf_26 rfl ?_
          refine J_istore_n (i := 2) 28 dX0_knownToAnyOf_27 rfl rfl (by decide) ?_
          refine J_iinc 31 dX0_knownToAnyOf_28 rfl (by decide) rfl ?_
          refine J_goto 4 dX0_knownToAnyOf_31 rfl ?_
          refine ih (i + 1) _ _ (by omega) (by omega) ?_
          subst hd hr
          simp only [orN]
          first | (rw [if_pos (by omega)]; done) | (rw [if_neg (by omega)]; done)
    )
theorem c_X0_knownToAnyOf (hx : 0 ≤ x ∧ x ≤ 63 := by omega) : Ct P 1 yX0_knownToAnyOf cX0_knownToAnyOf 4 (some .int) [vr P 16, vi x] σ (rI (orN (σ 17) x 6) σ) := by
  (
    refine Ct.of _ rfl rfl rfl (Nat.le_of_ble_eq_true rfl) (fun hB => ?_)
    refine J_iconst 1 dX0_knownToAnyOf_0 rfl ?_
    refine J_istore_n (i := 2) 2 dX0_knownToAnyOf_1 rfl rfl (by decide) ?_
    refine J_iconst 3 dX0_knownToAnyOf_2 rfl ?_
    refine J_istore_n (i := 3) 4 dX0_knownToAnyOf_3 rfl rfl (by decide) ?_
    exact l_X0_knownToAnyOf hx _ 0 _ _ (Nat.zero_add _) rfl rfl
  )
set_option maxHeartbeats 4000000 in
theorem l_X0_stepsBetween (hx : 0 ≤ x ∧ x < 6) : ∀ (k : Nat) (s t : Int), t + k = 6 → 0 ≤ t → 0 ≤ s ∧ s ≤ 63 → J P 2 (RX0, cX0_stepsBetween, 5, some .int) 7 [some (vr P 16), some (vi c), some (vi x), some (vi s), some (vi t)] [] σ (rI (farN (σ 17) x k s t) σ) := by
  intro k
  induction k with
  | zero =>
    intro s t ht ht0 hs
    refine J_iload 9 dX0_stepsBetween_7 rfl rfl ?_
    refine J_bipush 11 dX0_stepsBetween_9 rfl (by decide) ?_
    refine J_icmp_ge 40 14 dX0_stepsBetween_11 rfl rfl (fun c1 => ?_) (fun c1 => ?_)
    · refine J_bipush 42 dX0_stepsBetween_40 rfl (by decide) ?_
      refine J_iret dX0_stepsBetween_42 rfl ?_
      exact ⟨rfl, rfl⟩
    · exfalso; omega
  | succ k ih =>
    intro s t ht ht0 hs
    refine J.bd (fun hB => ?_)
    have hk6 : ∀ j, 0 ≤ σ 17 j ∧ σ 17 j ≤ 63 := fun j => hB 17 j
    have hob := orN_b hk6 s 6
    have hdv := sh_b (a := s.toNat) x (by omega)
    have hbb := bit_b (s.toNat / 2 ^ x.toNat)
    refine J_iload 9 dX0_stepsBetween_7 rfl rfl ?_
    refine J_bipush 11 dX0_stepsBetween_9 rfl (by decide) ?_
    refine J_icmp_ge 40 14 dX0_stepsBetween_11 rfl rfl (fun c1 => ?_) (fun c1 => ?_)
    · exfalso; omega
    · refine J_iload_n (i := 3) 15 dX0_stepsBetween_14 rfl rfl rfl ?_
      refine J_iload_n (i := 2) 16 dX0_stepsBetween_15 rfl rfl rfl ?_
      refine J_ishr 17 dX0_stepsBetween_16 rfl ?_
      refine J_iconst 18 dX0_stepsBetween_17 rfl ?_
      refine J_iand 19 dX0_stepsBetween_18 rfl ?_
      refine J_iconst 20 dX0_stepsBetween_19 rfl ?_
      refine J_icmp_ne 26 23 dX0_stepsBetween_20 rfl rfl (fun c2 => ?_) (fun c2 => ?_)
      · refine J_iload_n (i := 3) 27 dX0_stepsBetween_26 rfl rfl rfl ?_
        refine J_aload_n (i := 0) 28 dX0_stepsBetween_27 rfl rfl rfl ?_
        refine J_iload_n (i := 3) 29 dX0_stepsBetween_28 rfl rfl rfl ?_
        refine J_callVi 32 dX0_stepsBetween_29 rfl kX0_15 mX0_knownToAnyOf rfl rfl rfl (c_X0_knownToAnyOf) (by decide) rfl rfl (Nat.le_of_ble_eq_true rfl) (fun z4 s5 h3 => ?_)
        obtain ⟨rfl, rfl⟩ := h3
        refine J_ior 33 dX0_stepsBetween_32 rfl ?_
        refine J_istore_n (i := 3) 34 dX0_stepsBetween_33 rfl rfl (by decide) ?_
        refine J_iinc 37 dX0_stepsBetween_34 rfl (by decide) rfl ?_
        refine J_goto 7 dX0_stepsBetween_37 rfl ?_
        have := ih (ior s (orN (σ 17) s 6)) (t + 1) (by omega) (by omega) (ior_b hs hob)
        simp only [farN]
        rw [if_neg (by omega)]
        exact this
      · refine J_iload 25 dX0_stepsBetween_23 rfl rfl ?_
        refine J_iret dX0_stepsBetween_25 rfl ?_
        refine ⟨?_, rfl⟩
        simp only [farN]
        rw [if_pos (by omega)]
theorem c_X0_stepsBetween (hc : 0 ≤ c ∧ c < 6 := by omega) (hx : 0 ≤ x ∧ x < 6 := by omega) : Ct P 2 yX0_stepsBetween cX0_stepsBetween 5 (some .int) [vr P 16, vi c, vi x] σ (rI (farM (σ 17) c x) σ) := by
  have hp := pow_32 hc
  refine Ct.of _ rfl rfl rfl (Nat.le_of_ble_eq_true rfl) (fun hB => ?_)
  refine J_iconst 1 dX0_stepsBetween_0 rfl ?_
  refine J_iload_n (i := 1) 2 dX0_stepsBetween_1 rfl rfl rfl ?_
  refine J_ishl1 3 dX0_stepsBetween_2 rfl ?_
  refine J_istore_n (i := 3) 4 dX0_stepsBetween_3 rfl rfl (by decide) ?_
  refine J_iconst 5 dX0_stepsBetween_4 rfl ?_
  refine J_istore 7 dX0_stepsBetween_5 rfl (by decide) ?_
  exact l_X0_stepsBetween hx 6 _ _ rfl (by omega) (by omega)
/-! ===== sheets ===== -/
def faultM (sl len lane i n : Int) : Int := if sl = -1 then 1 else if ¬ sl = lane then 2 else if n < 0 then 4 else if 0 ≤ i ∧ i ≤ len ∧ 0 ≤ n ∧ n ≤ len - i then 0 else 3
def cutM (l v : Int) : Int := if l = 0 then v.bmod 256 else if l = 1 then v.bmod 65536 else v
theorem c_X5_hasRow (hw : w = 28 ∨ w = 30 ∨ w = 32 ∨ w = 34 := by omega) : Ct P 1 yX5_hasRow cX5_hasRow 1 (some .boolean) [vr P w] σ (rI (b01 (¬ σ w 1 = -1)) σ) := by
  rcases hw with rfl | rfl | rfl | rfl <;> (
    refine Ct.of _ rfl rfl rfl (Nat.le_of_ble_eq_true rfl) (fun hB => ?_)
    refine J_aload_n (i := 0) 1 dX5_hasRow_0 rfl rfl rfl ?_
    refine J_getI (jz := 1) (lo := (-1)) (hi := 2) 4 dX5_hasRow_1 rfl fX5_15 rfl rfl rfl rfl (fun b1 b2 => ?_)
    refine J_iconst 5 dX5_hasRow_4 rfl ?_
    refine J_icmp_eq 12 8 dX5_hasRow_5 rfl rfl (fun c3 => ?_) (fun c3 => ?_)
    · refine J_iconst 13 dX5_hasRow_12 rfl ?_
      refine J_zret dX5_hasRow_13 rfl ?_
      first | exact ⟨rfl, rfl⟩ | exact rfl | exact ⟨b01_t (by omega), rfl⟩ | exact ⟨b01_f (by omega), rfl⟩ | exact ⟨by omega, rfl⟩
    · refine J_iconst 9 dX5_hasRow_8 rfl ?_
      refine J_goto 13 dX5_hasRow_9 rfl ?_
      refine J_zret dX5_hasRow_13 rfl ?_
      first | exact ⟨rfl, rfl⟩ | exact rfl | exact ⟨b01_t (by omega), rfl⟩ | exact ⟨b01_f (by omega), rfl⟩ | exact ⟨by omega, rfl⟩
  )
theorem c_X5_drop (hw : w = 28 ∨ w = 30 ∨ w = 32 ∨ w = 34 := by omega) : Ct P 1 yX5_drop cX5_drop 1 none [vr P w] σ (rV (jup (jup σ w 1 (-1)) w 2 0)) := by
  rcases hw with rfl | rfl | rfl | rfl <;> (
    refine Ct.of _ rfl rfl rfl (Nat.le_of_ble_eq_true rfl) (fun hB => ?_)
    refine J_aload_n (i := 0) 1 dX5_drop_0 rfl rfl rfl ?_
    refine J_iconst 2 dX5_drop_1 rfl ?_
    refine J_putI (jz := 1) (lo := (-1)) (hi := 2) 5 dX5_drop_2 rfl gX5_15 rfl rfl rfl rfl ?_
    refine J_aload_n (i := 0) 6 dX5_drop_5 rfl rfl rfl ?_
    refine J_iconst 7 dX5_drop_6 rfl ?_
    refine J_putI (jz := 2) (lo := 0) (hi := 60) 10 dX5_drop_7 rfl gX5_19 rfl rfl rfl rfl ?_
    refine J_vret dX5_drop_10 rfl ?_
    first | exact ⟨rfl, rfl⟩ | exact rfl | exact ⟨b01_t (by omega), rfl⟩ | exact ⟨b01_f (by omega), rfl⟩ | exact ⟨by omega, rfl⟩
  )
theorem c_X5_hasCells (hw : w = 28 ∨ w = 30 ∨ w = 32 ∨ w = 34 := by omega) (hx : inR x := by omega) (hy : inR y := by omega) : Ct P 1 yX5_hasCells cX5_hasCells 3 (some .boolean) [vr P w, vi x, vi y] σ (rI (b01 (0 ≤ x ∧ x ≤ σ w 2 ∧ 0 ≤ y ∧ y ≤ σ w 2 - x)) σ) := by
  rcases hw with rfl | rfl | rfl | rfl <;> (
    refine Ct.of _ rfl rfl rfl (Nat.le_of_ble_eq_true rfl) (fun hB => ?_)
    refine J_iload_n (i := 1) 1 dX5_hasCells_0 rfl rfl rfl ?_
    refine J_if_lt 30 4 dX5_hasCells_1 rfl rfl (fun c1 => ?_) (fun c1 => ?_)
    · refine J_iconst 31 dX5_hasCells_30 rfl ?_
      refine J_zret dX5_hasCells_31 rfl ?_
      first | exact ⟨rfl, rfl⟩ | exact rfl | exact ⟨b01_t (by omega), rfl⟩ | exact ⟨b01_f (by omega), rfl⟩ | exact ⟨by omega, rfl⟩
    · refine J_iload_n (i := 1) 5 dX5_hasCells_4 rfl rfl rfl ?_
      refine J_aload_n (i := 0) 6 dX5_hasCells_5 rfl rfl rfl ?_
      refine J_getI (jz := 2) (lo := 0) (hi := 60) 9 dX5_hasCells_6 rfl fX5_19 rfl rfl rfl rfl (fun b2 b3 => ?_)
      refine J_icmp_gt 30 12 dX5_hasCells_9 rfl rfl (fun c4 => ?_) (fun c4 => ?_)
      · refine J_iconst 31 dX5_hasCells_30 rfl ?_
        refine J_zret dX5_hasCells_31 rfl ?_
        first | exact ⟨rfl, rfl⟩ | exact rfl | exact ⟨b01_t (by omega), rfl⟩ | exact ⟨b01_f (by omega), rfl⟩ | exact ⟨by omega, rfl⟩
      · refine J_iload_n (i := 2) 13 dX5_hasCells_12 rfl rfl rfl ?_
        refine J_if_lt 30 16 dX5_hasCells_13 rfl rfl (fun c5 => ?_) (fun c5 => ?_)
        · refine J_iconst 31 dX5_hasCells_30 rfl ?_
          refine J_zret dX5_hasCells_31 rfl ?_
          first | exact ⟨rfl, rfl⟩ | exact rfl | exact ⟨b01_t (by omega), rfl⟩ | exact ⟨b01_f (by omega), rfl⟩ | exact ⟨by omega, rfl⟩
        · refine J_iload_n (i := 2) 17 dX5_hasCells_16 rfl rfl rfl ?_
          refine J_aload_n (i := 0) 18 dX5_hasCells_17 rfl rfl rfl ?_
          refine J_getI (jz := 2) (lo := 0) (hi := 60) 21 dX5_hasCells_18 rfl fX5_19 rfl rfl rfl rfl (fun b6 b7 => ?_)
          refine J_iload_n (i := 1) 22 dX5_hasCells_21 rfl rfl rfl ?_
          refine J_isub 23 dX5_hasCells_22 rfl ?_
          refine J_icmp_gt 30 26 dX5_hasCells_23 rfl rfl (fun c8 => ?_) (fun c8 => ?_)
          · refine J_iconst 31 dX5_hasCells_30 rfl ?_
            refine J_zret dX5_hasCells_31 rfl ?_
            first | exact ⟨rfl, rfl⟩ | exact rfl | exact ⟨b01_t (by omega), rfl⟩ | exact ⟨b01_f (by omega), rfl⟩ | exact ⟨by omega, rfl⟩
          · refine J_iconst 27 dX5_hasCells_26 rfl ?_
            refine J_goto 31 dX5_hasCells_27 rfl ?_
            refine J_zret dX5_hasCells_31 rfl ?_
            first | exact ⟨rfl, rfl⟩ | exact rfl | exact ⟨b01_t (by omega), rfl⟩ | exact ⟨b01_f (by omega), rfl⟩ | exact ⟨by omega, rfl⟩
  )
theorem c_X5_faultAs (hw : w = 28 ∨ w = 30 ∨ w = 32 ∨ w = 34 := by omega) (hc : inR c := by omega) (hx : inR x := by omega) (hy : inR y := by omega) : Ct P 2 yX5_faultAs cX5_faultAs 4 (some .int) [vr P w, vi c, vi x, vi y] σ (rI (faultM (σ w 1) (σ w 2) c x y) σ) := by
  rcases hw with rfl | rfl | rfl | rfl <;> (
    refine Ct.of _ rfl rfl rfl (Nat.le_of_ble_eq_true rfl) (fun hB => ?_)
    refine J_aload_n (i := 0) 1 dX5_faultAs_0 rfl rfl rfl ?_
    refine J_callVi 4 dX5_faultAs_1 rfl kX5_22 mX5_hasRow rfl rfl rfl (c_X5_hasRow) (by decide) rfl rfl (Nat.le_of_ble_eq_true rfl) (fun z2 s3 h1 => ?_)
    obtain ⟨rfl, rfl⟩ := h1
    refine J_bif_ne 9 7 dX5_faultAs_4 rfl rfl (fun c4 => ?_) (fun c4 => ?_)
    · refine J_aload_n (i := 0) 10 dX5_faultAs_9 rfl rfl rfl ?_
      refine J_getI (jz := 1) (lo := (-1)) (hi := 2) 13 dX5_faultAs_10 rfl fX5_15 rfl rfl rfl rfl (fun b5 b6 => ?_)
      refine J_iload_n (i := 1) 14 dX5_faultAs_13 rfl rfl rfl ?_
      refine J_icmp_eq 19 17 dX5_faultAs_14 rfl rfl (fun c7 => ?_) (fun c7 => ?_)
      · refine J_iload_n (i := 3) 20 dX5_faultAs_19 rfl rfl rfl ?_
        refine J_if_ge 25 23 dX5_faultAs_20 rfl rfl (fun c8 => ?_) (fun c8 => ?_)
        · refine J_aload_n (i := 0) 26 dX5_faultAs_25 rfl rfl rfl ?_
          refine J_iload_n (i := 2) 27 dX5_faultAs_26 rfl rfl rfl ?_
          refine J_iload_n (i := 3) 28 dX5_faultAs_27 rfl rfl rfl ?_
          refine J_callVi 31 dX5_faultAs_28 rfl kX5_26 mX5_hasCells rfl rfl rfl (c_X5_hasCells) (by decide) rfl rfl (Nat.le_of_ble_eq_true rfl) (fun z10 s11 h9 => ?_)
          obtain ⟨rfl, rfl⟩ := h9
          refine J_bif_eq 38 34 dX5_faultAs_31 rfl rfl (fun c12 => ?_) (fun c12 => ?_)
          · refine J_iconst 39 dX5_faultAs_38 rfl ?_
            refine J_iret dX5_faultAs_39 rfl ?_
            refine ⟨?_, rfl⟩
            unfold faultM
            first | (rw [if_pos (by omega)]; done) | (rw [if_neg (by omega), if_pos (by omega)]; done) | (rw [if_neg (by omega), if_neg (by omega), if_pos (by omega)]; done) | (rw [if_neg (by omega), if_neg (by omega), if_neg (by omega), if_pos (by omega)]; done) | (rw [if_neg (by omega), if_neg (by omega), if_neg (by omega), if_neg (by omega)]; done)
          · refine J_iconst 35 dX5_faultAs_34 rfl ?_
            refine J_goto 39 dX5_faultAs_35 rfl ?_
            refine J_iret dX5_faultAs_39 rfl ?_
            refine ⟨?_, rfl⟩
            unfold faultM
            first | (rw [if_pos (by omega)]; done) | (rw [if_neg (by omega), if_pos (by omega)]; done) | (rw [if_neg (by omega), if_neg (by omega), if_pos (by omega)]; done) | (rw [if_neg (by omega), if_neg (by omega), if_neg (by omega), if_pos (by omega)]; done) | (rw [if_neg (by omega), if_neg (by omega), if_neg (by omega), if_neg (by omega)]; done)
        · refine J_iconst 24 dX5_faultAs_23 rfl ?_
          refine J_iret dX5_faultAs_24 rfl ?_
          refine ⟨?_, rfl⟩
          unfold faultM
          first | (rw [if_pos (by omega)]; done) | (rw [if_neg (by omega), if_pos (by omega)]; done) | (rw [if_neg (by omega), if_neg (by omega), if_pos (by omega)]; done) | (rw [if_neg (by omega), if_neg (by omega), if_neg (by omega), if_pos (by omega)]; done) | (rw [if_neg (by omega), if_neg (by omega), if_neg (by omega), if_neg (by omega)]; done)
      · refine J_iconst 18 dX5_faultAs_17 rfl ?_
        refine J_iret dX5_faultAs_18 rfl ?_
        refine ⟨?_, rfl⟩
        unfold faultM
        first | (rw [if_pos (by omega)]; done) | (rw [if_neg (by omega), if_pos (by omega)]; done) | (rw [if_neg (by omega), if_neg (by omega), if_pos (by omega)]; done) | (rw [if_neg (by omega), if_neg (by omega), if_neg (by omega), if_pos (by omega)]; done) | (rw [if_neg (by omega), if_neg (by omega), if_neg (by omega), if_neg (by omega)]; done)
    · refine J_iconst 8 dX5_faultAs_7 rfl ?_
      refine J_iret dX5_faultAs_8 rfl ?_
      refine ⟨?_, rfl⟩
      unfold faultM
      first | (rw [if_pos (by omega)]; done) | (rw [if_neg (by omega), if_pos (by omega)]; done) | (rw [if_neg (by omega), if_neg (by omega), if_pos (by omega)]; done) | (rw [if_neg (by omega), if_neg (by omega), if_neg (by omega), if_pos (by omega)]; done) | (rw [if_neg (by omega), if_neg (by omega), if_neg (by omega), if_neg (by omega)]; done)
  )
theorem c_X5_cut (hw : w = 28 ∨ w = 30 ∨ w = 32 ∨ w = 34 := by omega) (hx : inR x := by omega) : Ct P 1 yX5_cut cX5_cut 2 (some .int) [vr P w, vi x] σ (rI (cutM (σ w 1) x) σ) := by
  rcases hw with rfl | rfl | rfl | rfl <;> (
    refine Ct.of _ rfl rfl rfl (Nat.le_of_ble_eq_true rfl) (fun hB => ?_)
    refine J_aload_n (i := 0) 1 dX5_cut_0 rfl rfl rfl ?_
    refine J_getI (jz := 1) (lo := (-1)) (hi := 2) 4 dX5_cut_1 rfl fX5_15 rfl rfl rfl rfl (fun b1 b2 => ?_)
    refine J_if_ne 10 7 dX5_cut_4 rfl rfl (fun c3 => ?_) (fun c3 => ?_)
    · refine J_aload_n (i := 0) 11 dX5_cut_10 rfl rfl rfl ?_
      refine J_getI (jz := 1) (lo := (-1)) (hi := 2) 14 dX5_cut_11 rfl fX5_15 rfl rfl rfl rfl (fun b4 b5 => ?_)
      refine J_iconst 15 dX5_cut_14 rfl ?_
      refine J_icmp_ne 23 18 dX5_cut_15 rfl rfl (fun c6 => ?_) (fun c6 => ?_)
      · refine J_iload_n (i := 1) 24 dX5_cut_23 rfl rfl rfl ?_
        refine J_iret dX5_cut_24 rfl ?_
        refine ⟨?_, rfl⟩
        unfold cutM
        first | (rw [if_pos (by omega)]; done) | (rw [if_neg (by omega), if_pos (by omega)]; done) | (rw [if_neg (by omega), if_neg (by omega)]; done)
      · refine J_iload_n (i := 1) 19 dX5_cut_18 rfl rfl rfl ?_
        refine J_i2s 20 dX5_cut_19 rfl ?_
        refine J_goto 24 dX5_cut_20 rfl ?_
        refine J_iret dX5_cut_24 rfl ?_
        refine ⟨?_, rfl⟩
        unfold cutM
        first | (rw [if_pos (by omega)]; done) | (rw [if_neg (by omega), if_pos (by omega)]; done) | (rw [if_neg (by omega), if_neg (by omega)]; done)
    · refine J_iload_n (i := 1) 8 dX5_cut_7 rfl rfl rfl ?_
      refine J_i2b 9 dX5_cut_8 rfl ?_
      refine J_iret dX5_cut_9 rfl ?_
      refine ⟨?_, rfl⟩
      unfold cutM
      first | (rw [if_pos (by omega)]; done) | (rw [if_neg (by omega), if_pos (by omega)]; done) | (rw [if_neg (by omega), if_neg (by omega)]; done)
  )
set_option maxHeartbeats 4000000 in
theorem l_X5_renew (hw : w = 28 ∨ w = 30 ∨ w = 32 ∨ w = 34) : ∀ (k i : Nat) (d : Int) (τ : jS), i + k = 60 → d = i → τ = jset σ (w + 1) (mixN (fun _ => 0) (σ (w + 1)) i) → J P 1 (RX5, cX5_renew, 4, none) 12 [some (vr P w), some (vi x), some (vi y), some (vi d)] [] τ (rV (jset σ (w + 1) (fun _ => 0))) := by
  intro k
  induction k with
  | zero =>
    intro i d τ hi hd hτ
    rcases hw with rfl | rfl | rfl | rfl <;> (
      refine J_iload_n (i := 3) 13 dX5_renew_12 rfl rfl rfl ?_
      refine J_bipush 15 dX5_renew_13 rfl (by decide) ?_
      refine J_icmp_ge 31 18 dX5_renew_15 rfl rfl (fun c1 => ?_) (fun c1 => ?_)
      · subst hτ
        rw [Nat.add_zero] at hi
        subst hi
        refine J.norm (mix_all rfl rfl) (fun B => ?_) (J_vret dX5_renew_31 rfl rfl)
        rw [← jset_set σ _ (mixN (fun _ => 0) (σ _) 60)]
        exact jBd_set B (fun j => ⟨by show (-2147483648 : Int) ≤ 0; omega, by show (0 : Int) ≤ 2147483647; omega⟩)
      · exfalso; omega
    )
  | succ k ih =>
    intro i d τ hi hd hτ
    have hst : jup τ (w + 1) d 0 = jset σ (w + 1) (mixN (fun _ => 0) (σ (w + 1)) (i + 1)) := by
      subst hτ hd
      exact mix_up rfl
    rcases hw with rfl | rfl | rfl | rfl <;> (
      refine J_iload_n (i := 3) 13 dX5_renew_12 rfl rfl rfl ?_
      refine J_bipush 15 dX5_renew_13 rfl (by decide) ?_
      refine J_icmp_ge 31 18 dX5_renew_15 rfl rfl (fun c1 => ?_) (fun c1 => ?_)
      · exfalso; omega
      · refine J_aload_n (i := 0) 19 dX5_renew_18 rfl rfl rfl ?_
        refine J_getR 22 dX5_renew_19 rfl fX5_9 rfl rfl ?_
        refine J_iload_n (i := 3) 23 dX5_renew_22 rfl rfl rfl ?_
        refine J_iconst 24 dX5_renew_23 rfl ?_
        refine J_iast (N := 60) (lo := (-2147483648)) (hi := 2147483647) 25 dX5_renew_24 rfl rfl rfl rfl ?_
        refine J_iinc 28 dX5_renew_25 rfl (by decide) rfl ?_
        refine J_goto 12 dX5_renew_28 rfl ?_
        exact ih (i + 1) _ _ (by omega) (by omega) hst
    )
theorem c_X5_renew (hw : w = 28 ∨ w = 30 ∨ w = 32 ∨ w = 34 := by omega) (hx : 0 ≤ x ∧ x ≤ 2 := by omega) (hy : 0 ≤ y ∧ y ≤ 60 := by omega) : Ct P 1 yX5_renew cX5_renew 4 none [vr P w, vi x, vi y] σ (rV (jset (jup (jup σ w 1 x) w 2 y) (w + 1) (fun _ => 0))) := by
  have hw' := hw
  rcases hw with rfl | rfl | rfl | rfl <;> (
    refine Ct.of _ rfl rfl rfl (Nat.le_of_ble_eq_true rfl) (fun hB => ?_)
    refine J_aload_n (i := 0) 1 dX5_renew_0 rfl rfl rfl ?_
    refine J_iload_n (i := 1) 2 dX5_renew_1 rfl rfl rfl ?_
    refine J_putI (jz := 1) (lo := (-1)) (hi := 2) 5 dX5_renew_2 rfl gX5_15 rfl rfl rfl rfl ?_
    refine J_aload_n (i := 0) 6 dX5_renew_5 rfl rfl rfl ?_
    refine J_iload_n (i := 2) 7 dX5_renew_6 rfl rfl rfl ?_
    refine J_putI (jz := 2) (lo := 0) (hi := 60) 10 dX5_renew_7 rfl gX5_19 rfl rfl rfl rfl ?_
    refine J_iconst 11 dX5_renew_10 rfl ?_
    refine J_istore_n (i := 3) 12 dX5_renew_11 rfl rfl (by decide) ?_
    exact l_X5_renew hw' 60 0 _ _ rfl rfl (mix_0 _ _ _)
  )
/-! ===== readings ===== -/
def soN (v : jS) (co ea : Int → Int) : Nat → Bool
  | 0 => true
  | n + 1 => soN v co ea n && decide (eatsM v (co (n : Int)) = ea (n : Int))
theorem soN_no {v : jS} {co ea : Int → Int} {i : Nat} (h : ¬ eatsM v (co i) = ea i) : ∀ n : Nat, i < n → soN v co ea n = false := by
  intro n
  induction n with
  | zero => intro h; omega
  | succ n ih =>
    intro hn
    simp only [soN]
    by_cases e : i = n
    · subst e; simp [h]
    · rw [ih (by omega)]; rfl
theorem c_X3_note (hc : 0 ≤ c ∧ c < 6 := by omega) (hx : 0 ≤ x ∧ x ≤ 9 := by omega) : Ct P 1 yX3_note cX3_note 3 (some .int) [vr P 24, vi c, vi x] σ (qi fun z σ' => (if 8 ≤ σ 24 2 then -4 else σ 24 2) = z ∧ (if 8 ≤ σ 24 2 then σ else jup (jup (jup σ 25 (σ 24 2) c) 26 (σ 24 2) x) 24 2 (σ 24 2 + 1)) = σ') := by
  refine Ct.of _ rfl rfl rfl (Nat.le_of_ble_eq_true rfl) (fun hB => ?_)
  refine J_aload_n (i := 0) 1 dX3_note_0 rfl rfl rfl ?_
  refine J_getI (jz := 2) (lo := 0) (hi := 8) 4 dX3_note_1 rfl fX3_18 rfl rfl rfl rfl (fun b1 b2 => ?_)
  refine J_bipush 6 dX3_note_4 rfl (by decide) ?_
  refine J_icmp_lt 12 9 dX3_note_6 rfl rfl (fun c3 => ?_) (fun c3 => ?_)
  · refine J_aload_n (i := 0) 13 dX3_note_12 rfl rfl rfl ?_
    refine J_getR 16 dX3_note_13 rfl fX3_9 rfl rfl ?_
    refine J_aload_n (i := 0) 17 dX3_note_16 rfl rfl rfl ?_
    refine J_getI (jz := 2) (lo := 0) (hi := 8) 20 dX3_note_17 rfl fX3_18 rfl rfl rfl rfl (fun b4 b5 => ?_)
    refine J_iload_n (i := 1) 21 dX3_note_20 rfl rfl rfl ?_
    refine J_iast (N := 8) (lo := 0) (hi := 5) 22 dX3_note_21 rfl rfl rfl rfl ?_
    refine J_aload_n (i := 0) 23 dX3_note_22 rfl rfl rfl ?_
    refine J_getR 26 dX3_note_23 rfl fX3_15 rfl rfl ?_
    refine J_aload_n (i := 0) 27 dX3_note_26 rfl rfl rfl ?_
    refine J_getI (jz := 2) (lo := 0) (hi := 8) 30 dX3_note_27 rfl fX3_18 rfl rfl rfl rfl (fun b6 b7 => ?_)
    try simp only [jup, jset, ↓reduceIte] at b6 b7 ⊢
    refine J_iload_n (i := 2) 31 dX3_note_30 rfl rfl rfl ?_
    refine J_iast (N := 8) (lo := 0) (hi := 9) 32 dX3_note_31 rfl rfl rfl rfl ?_
    refine J_aload_n (i := 0) 33 dX3_note_32 rfl rfl rfl ?_
    refine J_dup 34 dX3_note_33 rfl rfl ?_
    refine J_getI (jz := 2) (lo := 0) (hi := 8) 37 dX3_note_34 rfl fX3_18 rfl rfl rfl rfl (fun b8 b9 => ?_)
    try simp only [jup, jset, ↓reduceIte] at b8 b9 ⊢
    refine J_iconst 38 dX3_note_37 rfl ?_
    refine J_iadd 39 dX3_note_38 rfl ?_
    refine J_putI (jz := 2) (lo := 0) (hi := 8) 42 dX3_note_39 rfl gX3_18 rfl rfl rfl rfl ?_
    refine J_aload_n (i := 0) 43 dX3_note_42 rfl rfl rfl ?_
    refine J_getI (jz := 2) (lo := 0) (hi := 8) 46 dX3_note_43 rfl fX3_18 rfl rfl rfl rfl (fun b10 b11 => ?_)
    try simp only [jup, jset, ↓reduceIte] at b10 b11 ⊢
    refine J_iconst 47 dX3_note_46 rfl ?_
    refine J_isub 48 dX3_note_47 rfl ?_
    refine J_iret dX3_note_48 rfl ?_
    first | exact ⟨if_pos (by omega), if_pos (by omega)⟩ | exact ⟨(if_neg (by omega)).trans (by omega), if_neg (by omega)⟩
  · refine J_bipush 11 dX3_note_9 rfl (by decide) ?_
    refine J_iret dX3_note_11 rfl ?_
    first | exact ⟨if_pos (by omega), if_pos (by omega)⟩ | exact ⟨(if_neg (by omega)).trans (by omega), if_neg (by omega)⟩
set_option maxHeartbeats 4000000 in
theorem l_X3_areSoIn (hw : w = 1 ∨ w = 8) : ∀ (k i : Nat) (d : Int), i + k = (σ 24 2).toNat → d = i → soN (vC σ w) (σ 25) (σ 26) i = true → J P 4 (RX3, cX3_areSoIn, 3, some .boolean) 2 [some (vr P 24), some (vr P w), some (vi d)] [] σ (rI (b01 (soN (vC σ w) (σ 25) (σ 26) (σ 24 2).toNat = true)) σ) := by
  intro k
  induction k with
  | zero =>
    intro i d hi hd hs
    rcases hw with rfl | rfl <;> (
      refine J_iload_n (i := 2) 3 dX3_areSoIn_2 rfl rfl rfl ?_
      refine J_aload_n (i := 0) 4 dX3_areSoIn_3 rfl rfl rfl ?_
      refine J_getI (jz := 2) (lo := 0) (hi := 8) 7 dX3_areSoIn_4 rfl fX3_18 rfl rfl rfl rfl (fun b1 b2 => ?_)
      refine J_icmp_ge 37 10 dX3_areSoIn_7 rfl rfl (fun c3 => ?_) (fun c3 => ?_)
      · refine J_iconst 38 dX3_areSoIn_37 rfl ?_
        refine J_zret dX3_areSoIn_38 rfl ?_
        refine ⟨b01_t ?_, rfl⟩
        rw [← hi]
        exact hs
      · exfalso; omega
    )
  | succ k ih =>
    intro i d hi hd hs
    refine J.bd (fun hB => ?_)
    have hvB := vC_B hB hw
    have heb := eatsM_b hvB (σ 25 d)
    rcases hw with rfl | rfl <;> (
      refine J_iload_n (i := 2) 3 dX3_areSoIn_2 rfl rfl rfl ?_
      refine J_aload_n (i := 0) 4 dX3_areSoIn_3 rfl rfl rfl ?_
      refine J_getI (jz := 2) (lo := 0) (hi := 8) 7 dX3_areSoIn_4 rfl fX3_18 rfl rfl rfl rfl (fun b1 b2 => ?_)
      refine J_icmp_ge 37 10 dX3_areSoIn_7 rfl rfl (fun c3 => ?_) (fun c3 => ?_)
      · exfalso; omega
      · refine J_aload_n (i := 1) 11 dX3_areSoIn_10 rfl rfl rfl ?_
        refine J_aload_n (i := 0) 12 dX3_areSoIn_11 rfl rfl rfl ?_
        refine J_getR 15 dX3_areSoIn_12 rfl fX3_9 rfl rfl ?_
        refine J_iload_n (i := 2) 16 dX3_areSoIn_15 rfl rfl rfl ?_
        refine J_iald (N := 8) (lo := 0) (hi := 5) 17 dX3_areSoIn_16 rfl rfl rfl rfl (fun b4 b5 => ?_)
        refine J_callVi 20 dX3_areSoIn_17 rfl kX3_22 mX7_eats rfl rfl rfl (c_X7_eats) (by decide) rfl rfl (Nat.le_of_ble_eq_true rfl) (fun z7 s8 h6 => ?_)
        obtain ⟨rfl, rfl⟩ := h6
        refine J_aload_n (i := 0) 21 dX3_areSoIn_20 rfl rfl rfl ?_
        refine J_getR 24 dX3_areSoIn_21 rfl fX3_15 rfl rfl ?_
        refine J_iload_n (i := 2) 25 dX3_areSoIn_24 rfl rfl rfl ?_
        refine J_iald (N := 8) (lo := 0) (hi := 9) 26 dX3_areSoIn_25 rfl rfl rfl rfl (fun b9 b10 => ?_)
        refine J_icmp_eq 31 29 dX3_areSoIn_26 rfl rfl (fun c11 => ?_) (fun c11 => ?_)
        · refine J_iinc 34 dX3_areSoIn_31 rfl (by decide) rfl ?_
          refine J_goto 2 dX3_areSoIn_34 rfl ?_
          refine ih (i + 1) _ (by omega) (by omega) ?_
          subst hd
          simp only [soN, hs, Bool.true_and, decide_eq_true_eq]
          assumption
        · refine J_iconst 30 dX3_areSoIn_29 rfl ?_
          refine J_zret dX3_areSoIn_30 rfl ?_
          refine ⟨b01_f ?_, rfl⟩
          subst hd
          rw [soN_no (i := i) (by assumption) _ (by omega)]
          simp
    )
theorem c_X3_areSoIn (hw : w = 1 ∨ w = 8 := by omega) : Ct P 4 yX3_areSoIn cX3_areSoIn 3 (some .boolean) [vr P 24, vr P w] σ (rI (b01 (soN (vC σ w) (σ 25) (σ 26) (σ 24 2).toNat = true)) σ) := by
  have hw' := hw
  rcases hw with rfl | rfl <;> (
    refine Ct.of _ rfl rfl rfl (Nat.le_of_ble_eq_true rfl) (fun hB => ?_)
    refine J_iconst 1 dX3_areSoIn_0 rfl ?_
    refine J_istore_n (i := 2) 2 dX3_areSoIn_1 rfl rfl (by decide) ?_
    exact l_X3_areSoIn hw' _ 0 _ (Nat.zero_add _) rfl rfl
  )
end

