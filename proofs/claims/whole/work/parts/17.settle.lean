/-! ===== winters that follow ===== -/
def lwk : List (Option Value) → List (Option Value) → Prop
  | [], _ => True
  | none :: l, _ :: l' => lwk l l'
  | some a :: l, b :: l' => b = some a ∧ lwk l l'
  | _ :: _, [] => False
theorem lwk_get : ∀ {L L' : List (Option Value)}, lwk L L' → ∀ (i : Nat) (v : Value), lg L i = some v → lg L' i = some v
  | [], _, _, i, v, h => by simp [lg] at h
  | none :: l, [], h, _, _, _ => absurd h (by simp [lwk])
  | some a :: l, [], h, _, _, _ => absurd h (by simp [lwk])
  | none :: l, b :: l', h, 0, v, hv => by simp [lg] at hv
  | none :: l, b :: l', h, i + 1, v, hv => lwk_get (L := l) (L' := l') h i v hv
  | some a :: l, b :: l', h, 0, v, hv => by
    simp [lg] at hv
    subst hv
    exact h.1
  | some a :: l, b :: l', h, i + 1, v, hv => lwk_get (L := l) (L' := l') h.2 i v hv
theorem J.wk {P : jP} {dp : Nat} {M : jMt} {pc : Nat} {L L' : List (Option Value)} {st : List Value} {σ : jS} {Q : Option Value → jS → Prop} (h : J P dp M pc L st σ Q) (hs : lwk L L') : J P dp M pc L' st σ Q := by
  intro B p l e R s m args below meth c C H locs hP hS ls hl
  exact h B p l e R s m args below meth c C H locs hP hS ls ⟨hl.1, hl.2.1, fun i v hv => hl.2.2 i v (lwk_get hs i v hv)⟩
theorem J.post {P : jP} {dp : Nat} {M : jMt} {pc : Nat} {L : List (Option Value)} {st : List Value} {σ : jS} {Q Q' : Option Value → jS → Prop} (h : J P dp M pc L st σ Q) (hq : ∀ r σ1, Q r σ1 → Q' r σ1) : J P dp M pc L st σ Q' := by
  intro B p l e R s m args below meth c C H locs hP hS ls hl
  intro T hT X
  obtain ⟨t, h1, o, a1, a2, ⟨⟨⟨r, σ1, b1, b2, b3, b4⟩, b5⟩, a3⟩⟩ := h B p l e R s m args below meth c C H locs hP hS ls hl T hT X
  exact ⟨t, h1, o, a1, a2, ⟨⟨r, σ1, b1, hq r σ1 b2, b3, b4⟩, b5⟩, a3⟩
def leastN (p : Nat → Bool) : Nat → Nat
  | 0 => 0
  | n + 1 => if leastN p n < n then leastN p n else if p n = true then n else n + 1
theorem leastN_le (p : Nat → Bool) (n : Nat) : leastN p n ≤ n := by
  induction n with
  | zero => simp [leastN]
  | succ n ih =>
    simp only [leastN]
    split
    · omega
    · split <;> omega
theorem least_at {p : Nat → Bool} {i : Nat} (h : leastN p i = i) (hp : p i = true) : ∀ t, i < t → leastN p t = i := by
  intro t
  induction t with
  | zero => intro h; omega
  | succ t ih =>
    intro ht
    simp only [leastN]
    by_cases e : i = t
    · subst e
      rw [if_neg (by omega), if_pos hp]
    · rw [if_pos (by rw [ih (by omega)]; omega), ih (by omega)]
theorem least_step {p : Nat → Bool} {i : Nat} (h : leastN p i = i) (hp : ¬ p i = true) : leastN p (i + 1) = i + 1 := by
  simp only [leastN]
  rw [if_neg (by omega), if_neg hp]
theorem leastN_congr {p q : Nat → Bool} : ∀ n, (∀ i, i < n → p i = q i) → leastN p n = leastN q n := by
  intro n
  induction n with
  | zero => intro _; rfl
  | succ n ih =>
    intro h
    simp only [leastN]
    rw [ih (fun i hi => h i (by omega)), h n (by omega)]
theorem digN_b {f : Int → Int} (h : ∀ j, 0 ≤ f j ∧ f j ≤ 9) : ∀ n : Nat, 0 ≤ digN f n ∧ digN f n < 10 ^ n := by
  intro n
  induction n with
  | zero => simp [digN]
  | succ n ih =>
    have h1 := h n
    simp only [digN]
    rw [Int.pow_succ]
    omega
theorem digN_m {f : Int → Int} (h : ∀ j, 0 ≤ f j ∧ f j ≤ 9) {n : Nat} (hn : n ≤ 6) : 0 ≤ digN f n ∧ digN f n ≤ 999999 := by
  have h1 := digN_b h n
  have key : ∀ n : Fin 7, (10 : Int) ^ n.val ≤ 1000000 := by decide
  have h2 := key ⟨n, by omega⟩
  simp only at h2
  omega
def passV (v : jS) : jS := jset v 4 (passN v (nM v))
def itV (v : jS) : Nat → jS
  | 0 => v
  | t + 1 => passV (itV v t)
theorem itV_n (v : jS) (t : Nat) : nM (itV v t) = nM v := by
  induction t with
  | zero => rfl
  | succ t ih =>
    show nM (passV (itV v t)) = nM v
    rw [← ih]
    rfl
def numV (v : jS) (t : Nat) : Int := digN (itV v t 4) (nM v)
def setT (f : Nat → Int) : Nat → Nat → Int × Int
  | 0, _ => (-9, -9)
  | k + 1, t => if leastN (fun s => decide (f s = f t)) t < t then ((leastN (fun s => decide (f s = f t)) t : Int), (t : Int) - (leastN (fun s => decide (f s = f t)) t : Int)) else setT f k (t + 1)
section
variable {P : jP} {w o : Nat} {c d g x y z n : Int} {σ : jS}
set_option maxHeartbeats 4000000 in
theorem l_X4_firstLike {t : Nat} (ht : t ≤ 300) : ∀ (k i : Nat) (d : Int), i + k = t → d = i → leastN (fun s => decide (σ 23 s = σ 23 t)) i = i → J P 1 (RX4, cX4_firstLike, 3, some .int) 2 [some (vr P 22), some (vi (t : Int)), some (vi d)] [] σ (rI ((leastN (fun s => decide (σ 23 s = σ 23 t)) t : Nat) : Int) σ) := by
  intro k
  induction k with
  | zero =>
    intro i d hi hd hs
    refine J_iload_n (i := 2) 3 dX4_firstLike_2 rfl rfl rfl ?_
    refine J_iload_n (i := 1) 4 dX4_firstLike_3 rfl rfl rfl ?_
    refine J_icmp_ge 30 7 dX4_firstLike_4 rfl rfl (fun c1 => ?_) (fun c1 => ?_)
    · refine J_iload_n (i := 1) 31 dX4_firstLike_30 rfl rfl rfl ?_
      refine J_iret dX4_firstLike_31 rfl ?_
      refine ⟨?_, rfl⟩
      rw [Nat.add_zero] at hi
      subst hi
      rw [hs]
    · exfalso; omega
  | succ k ih =>
    intro i d hi hd hs
    refine J_iload_n (i := 2) 3 dX4_firstLike_2 rfl rfl rfl ?_
    refine J_iload_n (i := 1) 4 dX4_firstLike_3 rfl rfl rfl ?_
    refine J_icmp_ge 30 7 dX4_firstLike_4 rfl rfl (fun c1 => ?_) (fun c1 => ?_)
    · exfalso; omega
    · refine J_aload_n (i := 0) 8 dX4_firstLike_7 rfl rfl rfl ?_
      refine J_getR 11 dX4_firstLike_8 rfl fX4_9 rfl rfl ?_
      refine J_iload_n (i := 2) 12 dX4_firstLike_11 rfl rfl rfl ?_
      refine J_iald (N := 301) (lo := 0) (hi := 999999) 13 dX4_firstLike_12 rfl rfl rfl rfl (fun b2 b3 => ?_)
      refine J_aload_n (i := 0) 14 dX4_firstLike_13 rfl rfl rfl ?_
      refine J_getR 17 dX4_firstLike_14 rfl fX4_9 rfl rfl ?_
      refine J_iload_n (i := 1) 18 dX4_firstLike_17 rfl rfl rfl ?_
      refine J_iald (N := 301) (lo := 0) (hi := 999999) 19 dX4_firstLike_18 rfl rfl rfl rfl (fun b4 b5 => ?_)
      refine J_icmp_ne 24 22 dX4_firstLike_19 rfl rfl (fun c6 => ?_) (fun c6 => ?_)
      · refine J_iinc 27 dX4_firstLike_24 rfl (by decide) rfl ?_
        refine J_goto 2 dX4_firstLike_27 rfl ?_
        refine ih (i + 1) _ (by omega) (by omega) (least_step hs ?_)
        subst hd
        simp only [decide_eq_true_eq]
        assumption
      · refine J_iload_n (i := 2) 23 dX4_firstLike_22 rfl rfl rfl ?_
        refine J_iret dX4_firstLike_23 rfl ?_
        refine ⟨?_, rfl⟩
        subst hd
        rw [least_at hs (by simp only [decide_eq_true_eq]; assumption) t (by omega)]
theorem c_X4_firstLike {t : Nat} (ht : t ≤ 300) : Ct P 1 yX4_firstLike cX4_firstLike 3 (some .int) [vr P 22, vi (t : Int)] σ (rI ((leastN (fun s => decide (σ 23 s = σ 23 t)) t : Nat) : Int) σ) := by
  refine Ct.of _ rfl rfl rfl (Nat.le_of_ble_eq_true rfl) (fun hB => ?_)
  refine J_iconst 1 dX4_firstLike_0 rfl ?_
  refine J_istore_n (i := 2) 2 dX4_firstLike_1 rfl rfl (by decide) ?_
  exact l_X4_firstLike ht t 0 _ (Nat.zero_add _) rfl rfl
def setQ (σ : jS) (v : jS) (k t : Nat) (σ' : jS) : Prop := σ' 22 1 = (setT (numV v) k t).1 ∧ σ' 22 2 = (setT (numV v) k t).2 ∧ ∀ q, q ≠ 12 → q ≠ 22 → q ≠ 23 → σ' q = σ q
set_option maxHeartbeats 4000000 in
theorem l_X4_follow (hvb : wvB (vC σ 8)) : ∀ (k t : Nat) (d : Int) (τ : jS), t + k = 301 → d = t → vC τ 8 = itV (vC σ 8) t → (∀ s : Nat, s < t → τ 23 s = numV (vC σ 8) s) → τ 22 1 = -9 ∧ τ 22 2 = -9 → (∀ q, q ≠ 12 → q ≠ 22 → q ≠ 23 → τ q = σ q) → J P 6 (RX4, cX4_follow, 4, none) 14 [some (vr P 22), some (vr P 8), some (vi d), none] [] τ (qv (setQ σ (vC σ 8) k t)) := by
  intro k
  induction k with
  | zero =>
    intro t d τ hi hd hv hs hb hf
    refine J_iload_n (i := 2) 15 dX4_follow_14 rfl rfl rfl ?_
    refine J_sipush 18 dX4_follow_15 rfl (by decide) ?_
    refine J_icmp_gt 65 21 dX4_follow_18 rfl rfl (fun c1 => ?_) (fun c1 => ?_)
    · refine J_vret dX4_follow_65 rfl ?_
      exact ⟨hb.1, hb.2, hf⟩
    · exfalso; omega
  | succ k ih =>
    intro t d τ hi hd hv hs hb hf
    refine J.bd (fun hB => ?_)
    have hn6 : nM (vC τ 8) ≤ 6 := (vC_n hB (Or.inr rfl)).1
    have hnum : digN (vC τ 8 4) (nM (vC τ 8)) = numV (vC σ 8) t := by unfold numV; rw [hv, itV_n]
    have hnb := digN_m (f := vC τ 8 4) (vC_B hB (Or.inr rfl)).2.2.2.2.2.2.2.1 hn6
    rw [hnum] at hnb
    have hle := leastN_le (fun s : Nat => decide (numV (vC σ 8) s = numV (vC σ 8) t)) t
    have hst : ∀ s : Nat, s ≤ t → jup τ 23 t (numV (vC σ 8) t) 23 s = numV (vC σ 8) s := by
      intro s hst
      unfold jup
      rw [if_pos rfl]
      by_cases e : s = t
      · subst e; rw [if_pos rfl]
      · rw [if_neg (by omega), hs s (by omega)]
    have hls : leastN (fun s : Nat => decide (jup τ 23 t (numV (vC σ 8) t) 23 s = jup τ 23 t (numV (vC σ 8) t) 23 t)) t = leastN (fun s : Nat => decide (numV (vC σ 8) s = numV (vC σ 8) t)) t := leastN_congr t (fun i hi => by rw [hst i (by omega), hst t (Nat.le_refl t)])
    have hv2 : vC (jup τ 23 t (numV (vC σ 8) t)) 8 = itV (vC σ 8) t := by rw [vC_up_ne _ _ _ _ _ (by omega), hv]
    subst hd
    refine J_iload_n (i := 2) 15 dX4_follow_14 rfl rfl rfl ?_
    refine J_sipush 18 dX4_follow_15 rfl (by decide) ?_
    refine J_icmp_gt 65 21 dX4_follow_18 rfl rfl (fun c1 => ?_) (fun c1 => ?_)
    · exfalso; omega
    · refine J_aload_n (i := 0) 22 dX4_follow_21 rfl rfl rfl ?_
      refine J_getR 25 dX4_follow_22 rfl fX4_9 rfl rfl ?_
      refine J_iload_n (i := 2) 26 dX4_follow_25 rfl rfl rfl ?_
      refine J_aload_n (i := 1) 27 dX4_follow_26 rfl rfl rfl ?_
      refine J_callVi 30 dX4_follow_27 rfl kX4_22 mX7_showsAsNumber rfl rfl rfl (c_X7_showsAsNumber) (by first | decide | omega) rfl rfl (Nat.le_of_ble_eq_true rfl) (fun z3 s4 h2 => ?_)
      obtain ⟨rfl, rfl⟩ := h2
      refine J.top hnum ?_
      refine J_iast (N := 301) (lo := 0) (hi := 999999) 31 dX4_follow_30 rfl rfl rfl rfl ?_
      refine J_aload_n (i := 0) 32 dX4_follow_31 rfl rfl rfl ?_
      refine J_iload_n (i := 2) 33 dX4_follow_32 rfl rfl rfl ?_
      refine J_callVi 36 dX4_follow_33 rfl kX4_28 mX4_firstLike rfl rfl rfl (c_X4_firstLike (t := t) (by omega)) (by first | decide | omega) rfl rfl (Nat.le_of_ble_eq_true rfl) (fun z6 s7 h5 => ?_)
      obtain ⟨rfl, rfl⟩ := h5
      refine J.top (congrArg (fun q : Nat => (q : Int)) hls) ?_
      refine J_istore_n (i := 3) 37 dX4_follow_36 rfl rfl (by decide) ?_
      refine J_iload_n (i := 3) 38 dX4_follow_37 rfl rfl rfl ?_
      refine J_iload_n (i := 2) 39 dX4_follow_38 rfl rfl rfl ?_
      refine J_icmp_ge 55 42 dX4_follow_39 rfl rfl (fun c8 => ?_) (fun c8 => ?_)
      · refine J_aload_n (i := 1) 56 dX4_follow_55 rfl rfl rfl ?_
        refine J_callVv 59 dX4_follow_56 rfl kX4_32 mX7_passOn rfl rfl rfl (c_X7_passOn) (by first | decide | omega) rfl rfl (Nat.le_of_ble_eq_true rfl) (fun s11 h9 => ?_)
        obtain rfl := h9
        refine J_iinc 62 dX4_follow_59 rfl (by decide) rfl ?_
        refine J_goto 14 dX4_follow_62 rfl ?_
        have hse : setT (numV (vC σ 8)) (k + 1) t = setT (numV (vC σ 8)) k (t + 1) := by simp only [setT]; rw [if_neg (by omega)]
        refine J.post (J.wk (L := [some (vr P 22), some (vr P 8), some (vi ((t : Int) + 1)), none]) (ih (t + 1) ((t : Int) + 1) _ (by omega) (by omega) ?_ ?_ ?_ ?_) ⟨rfl, rfl, rfl, trivial⟩) (fun r σ1 hq => ⟨hq.1, by rw [hse]; exact hq.2.1, by rw [hse]; exact hq.2.2.1, hq.2.2.2⟩)
        · rw [vC_set _ _ _ _ (by omega), hv2]
          rfl
        · intro s hs2
          show jset _ 12 _ 23 _ = _
          unfold jset
          rw [if_neg (by omega)]
          exact hst s (by omega)
        · exact hb
        · intro q h1 h2 h3
          funext j
          unfold jset jup
          rw [if_neg h1, if_neg h3, hf q h1 h2 h3]
      · refine J_aload_n (i := 0) 43 dX4_follow_42 rfl rfl rfl ?_
        refine J_iload_n (i := 3) 44 dX4_follow_43 rfl rfl rfl ?_
        refine J_putI (jz := 1) (lo := (-9)) (hi := 300) 47 dX4_follow_44 rfl gX4_15 rfl rfl rfl rfl ?_
        refine J_aload_n (i := 0) 48 dX4_follow_47 rfl rfl rfl ?_
        refine J_iload_n (i := 2) 49 dX4_follow_48 rfl rfl rfl ?_
        refine J_iload_n (i := 3) 50 dX4_follow_49 rfl rfl rfl ?_
        refine J_isub 51 dX4_follow_50 rfl ?_
        refine J_putI (jz := 2) (lo := (-9)) (hi := 301) 54 dX4_follow_51 rfl gX4_19 rfl rfl rfl rfl ?_
        refine J_vret dX4_follow_54 rfl ?_
        refine ⟨?_, ?_, ?_⟩
        · show _ = (setT (numV (vC σ 8)) (k + 1) t).1
          simp only [setT]
          rw [if_pos (by omega)]
          rfl
        · show _ = (setT (numV (vC σ 8)) (k + 1) t).2
          simp only [setT]
          rw [if_pos (by omega)]
          rfl
        · intro q h1 h2 h3
          funext j
          unfold jup
          rw [if_neg h2, if_neg h2, if_neg h3, hf q h1 h2 h3]

theorem c_X4_follow : Ct P 6 yX4_follow cX4_follow 4 none [vr P 22, vr P 8] σ (qv (setQ σ (vC σ 8) 301 0)) := by
  refine Ct.bd (fun hB => ?_)
  have hvb := vC_B hB (w := 8) (Or.inr rfl)
  refine Ct.of _ rfl rfl rfl (Nat.le_of_ble_eq_true rfl) (fun hB => ?_)
  refine J_aload_n (i := 0) 1 dX4_follow_0 rfl rfl rfl ?_
  refine J_bipush 3 dX4_follow_1 rfl (by decide) ?_
  refine J_putI (jz := 1) (lo := (-9)) (hi := 300) 6 dX4_follow_3 rfl gX4_15 rfl rfl rfl rfl ?_
  refine J_aload_n (i := 0) 7 dX4_follow_6 rfl rfl rfl ?_
  refine J_bipush 9 dX4_follow_7 rfl (by decide) ?_
  refine J_putI (jz := 2) (lo := (-9)) (hi := 301) 12 dX4_follow_9 rfl gX4_19 rfl rfl rfl rfl ?_
  refine J_iconst 13 dX4_follow_12 rfl ?_
  refine J_istore_n (i := 2) 14 dX4_follow_13 rfl rfl (by decide) ?_
  have e1 : vC (jup (jup σ 22 1 (-9)) 22 2 (-9)) 8 = vC σ 8 := by rw [vC_up_ne _ _ _ _ _ (by omega), vC_up_ne _ _ _ _ _ (by omega)]
  have h := l_X4_follow (P := P) (σ := jup (jup σ 22 1 (-9)) 22 2 (-9)) (by rw [e1]; exact hvb) 301 0 0 _ rfl rfl rfl (fun s h => by omega) ⟨rfl, rfl⟩ (fun q _ _ _ => rfl)
  refine J.post (J.wk h ⟨rfl, rfl, rfl, trivial⟩) (fun r σ1 hq => ?_)
  obtain ⟨hr, h1, h2, h3⟩ := hq
  rw [e1] at h1 h2
  exact ⟨hr, h1, h2, fun q a b e => by rw [h3 q a b e]; funext j; unfold jup; rw [if_neg b, if_neg b]⟩
end

