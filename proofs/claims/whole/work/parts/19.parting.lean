/-! ===== loaves parted anew ===== -/
abbrev pAcc : Type := Int × Int × Int × Int
def lo3 (v : jS) (a b c : Int) : jS := jup (jup (jup v 1 0 a) 1 1 b) 1 2 c
def cnt3 (v : jS) (a b c : Int) : Int := popM (starvM (lo3 v a b c))
def parW (v : jS) (A : pAcc) (a b c : Int) : pAcc := if A.1 ≠ -9 ∧ A.1 ≤ cnt3 v a b c then A else (cnt3 v a b c, a, b, c)
def okP (g all a b : Int) : Bool := decide (0 ≤ all - a - b ∧ all - a - b ≤ (if 2 < g then 9 else 0) ∧ b ≤ (if 1 < g then 9 else 0) ∧ a ≤ (if 0 < g then 9 else 0))
def parB (v : jS) (all a : Int) (A : pAcc) : Nat → pAcc
  | 0 => A
  | b + 1 => if okP (v 0 0) all a b = true then parW v (parB v all a A b) a b (all - a - b) else parB v all a A b
def parA (v : jS) (all : Int) : Nat → pAcc
  | 0 => (-9, 0, 0, 0)
  | a + 1 => parB v all a (parA v all a) 10
def parM (v : jS) : pAcc := parA v (sumN (v 1) (gM v)) 10
theorem parB_stop {v : jS} {all a : Int} {A : pAcc} {i : Nat} : ∀ n, i ≤ n → (∀ b : Nat, i ≤ b → b < n → okP (v 0 0) all a b = false) → parB v all a A n = parB v all a A i := by
  intro n
  induction n with
  | zero => intro h _; rw [show i = 0 by omega]
  | succ n ih =>
    intro h hb
    by_cases e : i = n + 1
    · rw [e]
    · simp only [parB]
      rw [if_neg (by rw [hb n (by omega) (by omega)]; simp), ih (by omega) (fun b h1 h2 => hb b h1 (by omega))]
theorem parA_stop {v : jS} {all : Int} {i : Nat} : ∀ n, i ≤ n → (∀ a b : Nat, i ≤ a → okP (v 0 0) all a b = false) → parA v all n = parA v all i := by
  intro n
  induction n with
  | zero => intro h _; rw [show i = 0 by omega]
  | succ n ih =>
    intro h hb
    by_cases e : i = n + 1
    · rw [e]
    · simp only [parA]
      rw [parB_stop (i := 0) 10 (by omega) (fun b _ _ => hb n b (by omega))]
      simp only [parB]
      exact ih (by omega) hb
theorem lo3_vC (τ : jS) (a b c : Int) : vC (jup (jup (jup τ 9 0 a) 9 1 b) 9 2 c) 8 = lo3 (vC τ 8) a b c := by
  have e : (9 : Nat) = 8 + 1 := rfl
  unfold lo3
  rw [e, vC_up _ _ _ _ _ (by omega), vC_up _ _ _ _ _ (by omega), vC_up _ _ _ _ _ (by omega)]
theorem lo3_lo3 (v : jS) (a b c x y z : Int) : lo3 (lo3 v a b c) x y z = lo3 v x y z := by
  funext k j
  unfold lo3 jup
  by_cases h : k = 1
  · simp only [if_pos h]
    by_cases h2 : j = 2
    · simp only [if_pos h2]
    · simp only [if_neg h2]
      by_cases h1 : j = 1
      · simp only [if_pos h1]
      · simp only [if_neg h1]
        by_cases h0 : j = 0
        · simp only [if_pos h0]
        · simp only [if_neg h0]
  · simp only [if_neg h]
def parI (σ : jS) (v : jS) (A : pAcc) (τ : jS) : Prop := τ 20 1 = A.1 ∧ (A.1 ≠ -9 → τ 21 0 = A.2.1 ∧ τ 21 1 = A.2.2.1 ∧ τ 21 2 = A.2.2.2) ∧ (∀ x y z, lo3 (vC τ 8) x y z = lo3 v x y z) ∧ ∀ q, q ≠ 9 → q ≠ 20 → q ≠ 21 → τ q = σ q
section
variable {P : jP} {w o : Nat} {a b c d g x y z n : Int} {σ τ v : jS} {A : pAcc}
theorem c_X2_mostAt (hw : w = 1 ∨ w = 8 := by omega) (hg : inR g := by omega) : Ct P 2 yX2_mostAt cX2_mostAt 2 (some .int) [vi g, vr P w] σ (rI (if 0 ≤ g ∧ g < σ w 0 then 9 else 0) σ) := by
  rcases hw with rfl | rfl <;> (
    refine Ct.of _ rfl rfl rfl (Nat.le_of_ble_eq_true rfl) (fun hB => ?_)
    refine J_aload_n (i := 1) 1 dX2_mostAt_0 rfl rfl rfl ?_
    refine J_iload_n (i := 0) 2 dX2_mostAt_1 rfl rfl rfl ?_
    refine J_callVi 5 dX2_mostAt_2 rfl kX2_33 mX7_hasGate rfl rfl rfl (c_X7_hasGate) (by first | decide | omega) rfl rfl (Nat.le_of_ble_eq_true rfl) (fun z2 s3 h1 => ?_)
    obtain ⟨rfl, rfl⟩ := h1
    refine J_bif_eq 13 8 dX2_mostAt_5 rfl rfl (fun c4 => ?_) (fun c4 => ?_)
    · refine J_iconst 14 dX2_mostAt_13 rfl ?_
      refine J_iret dX2_mostAt_14 rfl ?_
      first | exact ⟨if_pos (by omega), rfl⟩ | exact ⟨if_neg (by omega), rfl⟩
    · refine J_bipush 10 dX2_mostAt_8 rfl (by decide) ?_
      refine J_goto 14 dX2_mostAt_10 rfl ?_
      refine J_iret dX2_mostAt_14 rfl ?_
      first | exact ⟨if_pos (by omega), rfl⟩ | exact ⟨if_neg (by omega), rfl⟩
  )
set_option maxHeartbeats 4000000 in
theorem c_X2_weigh (hI : parI σ v A τ) (ha : 0 ≤ a ∧ a ≤ 9 := by omega) (hb : 0 ≤ b ∧ b ≤ 9 := by omega) (hc : 0 ≤ c ∧ c ≤ 9 := by omega) : Ct P 6 yX2_weigh cX2_weigh 6 none [vr P 20, vr P 8, vi a, vi b, vi c] τ (qv (parI σ v (parW v A a b c))) := by
  obtain ⟨i1, i2, i3, i4⟩ := hI
  have e1 : vC (jup (jup (jup τ 9 0 a) 9 1 b) 9 2 c) 8 = lo3 v a b c := by rw [lo3_vC, i3]
  have h9 : ∀ x y z, lo3 (vC (jup (jup (jup τ 9 0 a) 9 1 b) 9 2 c) 8) x y z = lo3 v x y z := by
    intro x y z
    rw [e1, lo3_lo3]
  refine Ct.of _ rfl rfl rfl (Nat.le_of_ble_eq_true rfl) (fun hB => ?_)
  refine J_aload_n (i := 1) 1 dX2_weigh_0 rfl rfl rfl ?_
  refine J_getR 4 dX2_weigh_1 rfl fX2_37 rfl rfl ?_
  refine J_iconst 5 dX2_weigh_4 rfl ?_
  refine J_iload_n (i := 2) 6 dX2_weigh_5 rfl rfl rfl ?_
  refine J_iast (N := 3) (lo := 0) (hi := 9) 7 dX2_weigh_6 rfl rfl rfl rfl ?_
  refine J_aload_n (i := 1) 8 dX2_weigh_7 rfl rfl rfl ?_
  refine J_getR 11 dX2_weigh_8 rfl fX2_37 rfl rfl ?_
  refine J_iconst 12 dX2_weigh_11 rfl ?_
  refine J_iload_n (i := 3) 13 dX2_weigh_12 rfl rfl rfl ?_
  refine J_iast (N := 3) (lo := 0) (hi := 9) 14 dX2_weigh_13 rfl rfl rfl rfl ?_
  refine J_aload_n (i := 1) 15 dX2_weigh_14 rfl rfl rfl ?_
  refine J_getR 18 dX2_weigh_15 rfl fX2_37 rfl rfl ?_
  refine J_iconst 19 dX2_weigh_18 rfl ?_
  refine J_iload 21 dX2_weigh_19 rfl rfl ?_
  refine J_iast (N := 3) (lo := 0) (hi := 9) 22 dX2_weigh_21 rfl rfl rfl rfl ?_
  refine J_aload_n (i := 1) 23 dX2_weigh_22 rfl rfl rfl ?_
  refine J_callVi 26 dX2_weigh_23 rfl kX2_40 mX7_starving rfl rfl rfl (c_X7_starving) (by first | decide | omega) rfl rfl (Nat.le_of_ble_eq_true rfl) (fun z2 s3 h1 => ?_)
  obtain ⟨rfl, rfl⟩ := h1
  refine J.bd (fun hB2 => ?_)
  have hwb := vC_B hB2 (w := 8) (Or.inr rfl)
  rw [e1] at hwb
  have hsb := starvM_b hwb
  refine J.top (congrArg starvM e1) ?_
  refine J_callSi 29 dX2_weigh_26 rfl kX2_43 mJ6_bitCount_0f7a4 (c_J6_bitCount_0f7a4) (by first | decide | omega) rfl rfl (Nat.le_of_ble_eq_true rfl) (fun z5 s6 h4 => ?_)
  obtain ⟨rfl, rfl⟩ := h4
  have hpb : 0 ≤ cnt3 v a b c ∧ cnt3 v a b c ≤ 6 := popM_b hsb
  refine J.top (e' := cnt3 v a b c) rfl ?_
  refine J_istore 31 dX2_weigh_29 rfl (by decide) ?_
  refine J_aload_n (i := 0) 32 dX2_weigh_31 rfl rfl rfl ?_
  refine J_getI (jz := 1) (lo := (-9)) (hi := 6) 35 dX2_weigh_32 rfl fX2_15 rfl rfl rfl rfl (fun b7 b8 => ?_)
  try simp only [jup, jset, ↓reduceIte] at b7 b8 ⊢
  refine J_bipush 37 dX2_weigh_35 rfl (by decide) ?_
  refine J_icmp_eq 50 40 dX2_weigh_37 rfl rfl (fun c9 => ?_) (fun c9 => ?_)
  · refine J_aload_n (i := 0) 51 dX2_weigh_50 rfl rfl rfl ?_
    refine J_iload 53 dX2_weigh_51 rfl rfl ?_
    refine J_putI (jz := 1) (lo := (-9)) (hi := 6) 56 dX2_weigh_53 rfl gX2_15 rfl rfl rfl rfl ?_
    refine J_aload_n (i := 1) 57 dX2_weigh_56 rfl rfl rfl ?_
    refine J_getR 60 dX2_weigh_57 rfl fX2_37 rfl rfl ?_
    refine J_iconst 61 dX2_weigh_60 rfl ?_
    refine J_aload_n (i := 0) 62 dX2_weigh_61 rfl rfl rfl ?_
    refine J_getR 65 dX2_weigh_62 rfl fX2_9 rfl rfl ?_
    refine J_iconst 66 dX2_weigh_65 rfl ?_
    refine J_iconst 67 dX2_weigh_66 rfl ?_
    refine J_copyA (Na := 3) (Nb := 3) 70 dX2_weigh_67 rfl kX2_49 rfl rfl rfl rfl rfl (by decide) rfl ?_
    refine J_vret dX2_weigh_70 rfl ?_
    unfold parW
    rw [if_neg (by omega)]
    refine ⟨rfl, fun _ => ⟨by simp [jset, jup], by simp [jset, jup], by simp [jset, jup]⟩, ?_, ?_⟩
    · intro x y z
      rw [vC_set_ne _ _ _ _ (by omega), vC_up_ne _ _ _ _ _ (by omega)]
      exact h9 x y z
    · intro q h1 h2 h3
      rw [← i4 q h1 h2 h3]
      funext j
      unfold jset jup
      rw [if_neg h3, if_neg h2, if_neg h1, if_neg h1, if_neg h1]
  · refine J_iload 42 dX2_weigh_40 rfl rfl ?_
    refine J_aload_n (i := 0) 43 dX2_weigh_42 rfl rfl rfl ?_
    refine J_getI (jz := 1) (lo := (-9)) (hi := 6) 46 dX2_weigh_43 rfl fX2_15 rfl rfl rfl rfl (fun b10 b11 => ?_)
    try simp only [jup, jset, ↓reduceIte] at b10 b11 ⊢
    refine J_icmp_lt 50 49 dX2_weigh_46 rfl rfl (fun c12 => ?_) (fun c12 => ?_)
    · refine J_aload_n (i := 0) 51 dX2_weigh_50 rfl rfl rfl ?_
      refine J_iload 53 dX2_weigh_51 rfl rfl ?_
      refine J_putI (jz := 1) (lo := (-9)) (hi := 6) 56 dX2_weigh_53 rfl gX2_15 rfl rfl rfl rfl ?_
      refine J_aload_n (i := 1) 57 dX2_weigh_56 rfl rfl rfl ?_
      refine J_getR 60 dX2_weigh_57 rfl fX2_37 rfl rfl ?_
      refine J_iconst 61 dX2_weigh_60 rfl ?_
      refine J_aload_n (i := 0) 62 dX2_weigh_61 rfl rfl rfl ?_
      refine J_getR 65 dX2_weigh_62 rfl fX2_9 rfl rfl ?_
      refine J_iconst 66 dX2_weigh_65 rfl ?_
      refine J_iconst 67 dX2_weigh_66 rfl ?_
      refine J_copyA (Na := 3) (Nb := 3) 70 dX2_weigh_67 rfl kX2_49 rfl rfl rfl rfl rfl (by decide) rfl ?_
      refine J_vret dX2_weigh_70 rfl ?_
      unfold parW
      rw [if_neg (by omega)]
      refine ⟨rfl, fun _ => ⟨by simp [jset, jup], by simp [jset, jup], by simp [jset, jup]⟩, ?_, ?_⟩
      · intro x y z
        rw [vC_set_ne _ _ _ _ (by omega), vC_up_ne _ _ _ _ _ (by omega)]
        exact h9 x y z
      · intro q h1 h2 h3
        rw [← i4 q h1 h2 h3]
        funext j
        unfold jset jup
        rw [if_neg h3, if_neg h2, if_neg h1, if_neg h1, if_neg h1]
    · refine J_vret dX2_weigh_49 rfl ?_
      unfold parW
      rw [if_pos (by omega)]
      exact ⟨i1, i2, h9, fun q h1 h2 h3 => by rw [← i4 q h1 h2 h3]; funext j; unfold jup; rw [if_neg h1, if_neg h1, if_neg h1]⟩

theorem most_e {τ σ : jS} {k : Int} (hk : 0 ≤ k) (e : τ 8 0 = σ 8 0) : (if 0 ≤ k ∧ k < τ 8 0 then (9 : Int) else 0) = (if k < σ 8 0 then 9 else 0) := by
  rw [e]
  by_cases h : k < σ 8 0
  · rw [if_pos ⟨hk, h⟩, if_pos h]
  · rw [if_neg (fun q => h q.2), if_neg h]
theorem okP_iff (g all a b : Int) : okP g all a b = true ↔ (0 ≤ all - a - b ∧ all - a - b ≤ (if 2 < g then 9 else 0) ∧ b ≤ (if 1 < g then 9 else 0) ∧ a ≤ (if 0 < g then 9 else 0)) := by
  unfold okP
  exact decide_eq_true_iff
theorem most_9 (p : Prop) [Decidable p] : (if p then (9 : Int) else 0) ≤ 9 ∧ 0 ≤ (if p then (9 : Int) else 0) := by split <;> omega
set_option maxHeartbeats 4000000 in
theorem l_X2_seekB {all : Int} {a : Nat} {Q : Option Value → jS → Prop} (hall : 0 ≤ all ∧ all ≤ 27) (ha : (a : Int) ≤ (if 0 < σ 8 0 then 9 else 0)) (hK : ∀ τ : jS, parI σ (vC σ 8) (parB (vC σ 8) all a A 10) τ → J P 7 (RX2, cX2_seek, 6, none) 74 [some (vr P 20), some (vr P 8), some (vi all), some (vi (a : Int)), none, none] [] τ Q) : ∀ (k i : Nat) (d : Int) (τ : jS), i + k = 10 → d = i → parI σ (vC σ 8) (parB (vC σ 8) all a A i) τ → J P 7 (RX2, cX2_seek, 6, none) 25 [some (vr P 20), some (vr P 8), some (vi all), some (vi (a : Int)), some (vi d), none] [] τ Q := by
  intro k
  have h1 := most_9 (1 < σ 8 0)
  have h2 := most_9 (2 < σ 8 0)
  have h0 := most_9 (0 < σ 8 0)
  have ho : ∀ b : Nat, okP (vC σ 8 0 0) all a b = true ↔ (0 ≤ all - a - b ∧ all - a - b ≤ (if 2 < σ 8 0 then 9 else 0) ∧ (b : Int) ≤ (if 1 < σ 8 0 then 9 else 0) ∧ (a : Int) ≤ (if 0 < σ 8 0 then 9 else 0)) := fun b => okP_iff (σ 8 0) all a b
  generalize hM1 : (if 1 < σ 8 0 then (9 : Int) else 0) = M1 at h1 ho
  generalize hM2 : (if 2 < σ 8 0 then (9 : Int) else 0) = M2 at h2 ho
  generalize hM0 : (if 0 < σ 8 0 then (9 : Int) else 0) = M0 at h0 ho ha
  have hexit : ∀ (i : Nat) (τ : jS), i ≤ 10 → M1 < i → parI σ (vC σ 8) (parB (vC σ 8) all a A i) τ → parI σ (vC σ 8) (parB (vC σ 8) all a A 10) τ := by
    intro i τ hi hM h
    rw [parB_stop 10 hi (fun b h3 h4 => by
      cases hb : okP (vC σ 8 0 0) all a b with
      | false => rfl
      | true =>
        have := (ho b).mp hb
        omega)]
    exact h
  induction k with
  | zero =>
    intro i d τ hi hd hI
    have e8 : τ 8 0 = σ 8 0 := by rw [hI.2.2.2 8 (by omega) (by omega) (by omega)]
    refine J_iload 27 dX2_seek_25 rfl rfl ?_
    refine J_iconst 28 dX2_seek_27 rfl ?_
    refine J_aload_n (i := 1) 29 dX2_seek_28 rfl rfl rfl ?_
    refine J_callSi 32 dX2_seek_29 rfl kX2_25 mX2_mostAt (c_X2_mostAt) (by first | decide | omega) rfl rfl (Nat.le_of_ble_eq_true rfl) (fun z2 s3 h1 => ?_)
    obtain ⟨rfl, rfl⟩ := h1
    refine J.top ((most_e (by omega) e8).trans hM1) ?_
    refine J_icmp_gt 74 35 dX2_seek_32 rfl rfl (fun c4 => ?_) (fun c4 => ?_)
    · exact J.wk (hK τ (hexit i τ (by omega) (by omega) hI)) ⟨rfl, rfl, rfl, rfl, trivial⟩
    · exfalso; omega
  | succ k ih =>
    intro i d τ hi hd hI
    have e8 : τ 8 0 = σ 8 0 := by rw [hI.2.2.2 8 (by omega) (by omega) (by omega)]
    subst hd
    refine J_iload 27 dX2_seek_25 rfl rfl ?_
    refine J_iconst 28 dX2_seek_27 rfl ?_
    refine J_aload_n (i := 1) 29 dX2_seek_28 rfl rfl rfl ?_
    refine J_callSi 32 dX2_seek_29 rfl kX2_25 mX2_mostAt (c_X2_mostAt) (by first | decide | omega) rfl rfl (Nat.le_of_ble_eq_true rfl) (fun z2 s3 h1 => ?_)
    obtain ⟨rfl, rfl⟩ := h1
    refine J.top ((most_e (by omega) e8).trans hM1) ?_
    refine J_icmp_gt 74 35 dX2_seek_32 rfl rfl (fun c4 => ?_) (fun c4 => ?_)
    · exact J.wk (hK τ (hexit i τ (by omega) (by omega) hI)) ⟨rfl, rfl, rfl, rfl, trivial⟩
    · refine J_iload_n (i := 2) 36 dX2_seek_35 rfl rfl rfl ?_
      refine J_iload_n (i := 3) 37 dX2_seek_36 rfl rfl rfl ?_
      refine J_isub 38 dX2_seek_37 rfl ?_
      refine J_iload 40 dX2_seek_38 rfl rfl ?_
      refine J_isub 41 dX2_seek_40 rfl ?_
      refine J_istore 43 dX2_seek_41 rfl (by decide) ?_
      refine J_iload 45 dX2_seek_43 rfl rfl ?_
      refine J_if_lt 68 48 dX2_seek_45 rfl rfl (fun c5 => ?_) (fun c5 => ?_)
      · refine J_iinc 71 dX2_seek_68 rfl (by decide) rfl ?_
        refine J_goto 25 dX2_seek_71 rfl ?_
        refine J.wk (ih (i + 1) ((i : Int) + 1) _ (by omega) rfl ?_) ⟨rfl, rfl, rfl, rfl, rfl, trivial⟩
        simp only [parB]
        first
          | (rw [if_pos ((ho i).mpr (by omega))]; exact hI2)
          | (rw [if_neg (fun q => by have := (ho i).mp q; omega)]; exact hI)
      · refine J_iload 50 dX2_seek_48 rfl rfl ?_
        refine J_iconst 51 dX2_seek_50 rfl ?_
        refine J_aload_n (i := 1) 52 dX2_seek_51 rfl rfl rfl ?_
        refine J_callSi 55 dX2_seek_52 rfl kX2_25 mX2_mostAt (c_X2_mostAt) (by first | decide | omega) rfl rfl (Nat.le_of_ble_eq_true rfl) (fun z7 s8 h6 => ?_)
        obtain ⟨rfl, rfl⟩ := h6
        refine J.top ((most_e (by omega) e8).trans hM2) ?_
        refine J_icmp_gt 68 58 dX2_seek_55 rfl rfl (fun c9 => ?_) (fun c9 => ?_)
        · refine J_iinc 71 dX2_seek_68 rfl (by decide) rfl ?_
          refine J_goto 25 dX2_seek_71 rfl ?_
          refine J.wk (ih (i + 1) ((i : Int) + 1) _ (by omega) rfl ?_) ⟨rfl, rfl, rfl, rfl, rfl, trivial⟩
          simp only [parB]
          first
            | (rw [if_pos ((ho i).mpr (by omega))]; exact hI2)
            | (rw [if_neg (fun q => by have := (ho i).mp q; omega)]; exact hI)
        · refine J_aload_n (i := 0) 59 dX2_seek_58 rfl rfl rfl ?_
          refine J_aload_n (i := 1) 60 dX2_seek_59 rfl rfl rfl ?_
          refine J_iload_n (i := 3) 61 dX2_seek_60 rfl rfl rfl ?_
          refine J_iload 63 dX2_seek_61 rfl rfl ?_
          refine J_iload 65 dX2_seek_63 rfl rfl ?_
          refine J_callVv 68 dX2_seek_65 rfl kX2_29 mX2_weigh rfl rfl rfl (c_X2_weigh (σ := σ) (v := vC σ 8) (A := parB (vC σ 8) all a A i) hI) (by first | decide | omega) rfl rfl (Nat.le_of_ble_eq_true rfl) (fun s12 h10 => ?_)
          have hI2 := h10
          refine J_iinc 71 dX2_seek_68 rfl (by decide) rfl ?_
          refine J_goto 25 dX2_seek_71 rfl ?_
          refine J.wk (ih (i + 1) ((i : Int) + 1) _ (by omega) rfl ?_) ⟨rfl, rfl, rfl, rfl, rfl, trivial⟩
          simp only [parB]
          first
            | (rw [if_pos ((ho i).mpr (by omega))]; exact hI2)
            | (rw [if_neg (fun q => by have := (ho i).mp q; omega)]; exact hI)
set_option maxHeartbeats 4000000 in
theorem l_X2_seekA {all : Int} (hall : 0 ≤ all ∧ all ≤ 27) : ∀ (k i : Nat) (d : Int) (τ : jS), i + k = 10 → d = i → parI σ (vC σ 8) (parA (vC σ 8) all i) τ → J P 7 (RX2, cX2_seek, 6, none) 13 [some (vr P 20), some (vr P 8), some (vi all), some (vi d), none, none] [] τ (qv (parI σ (vC σ 8) (parA (vC σ 8) all 10))) := by
  intro k
  have h0 := most_9 (0 < σ 8 0)
  have hexit : ∀ (i : Nat) (τ : jS), i ≤ 10 → (if 0 < σ 8 0 then (9 : Int) else 0) < i → parI σ (vC σ 8) (parA (vC σ 8) all i) τ → parI σ (vC σ 8) (parA (vC σ 8) all 10) τ := by
    intro i τ hi hM h
    rw [parA_stop 10 hi (fun a b h3 => by
      cases hb : okP (vC σ 8 0 0) all a b with
      | false => rfl
      | true =>
        have := (okP_iff (σ 8 0) all a b).mp hb
        generalize (if 0 < σ 8 0 then (9 : Int) else 0) = M0 at *
        omega)]
    exact h
  induction k with
  | zero =>
    intro i d τ hi hd hI
    have e8 : τ 8 0 = σ 8 0 := by rw [hI.2.2.2 8 (by omega) (by omega) (by omega)]
    refine J_iload_n (i := 3) 14 dX2_seek_13 rfl rfl rfl ?_
    refine J_iconst 15 dX2_seek_14 rfl ?_
    refine J_aload_n (i := 1) 16 dX2_seek_15 rfl rfl rfl ?_
    refine J_callSi 19 dX2_seek_16 rfl kX2_25 mX2_mostAt (c_X2_mostAt) (by first | decide | omega) rfl rfl (Nat.le_of_ble_eq_true rfl) (fun z2 s3 h1 => ?_)
    obtain ⟨rfl, rfl⟩ := h1
    refine J.top (most_e (by omega) e8) ?_
    refine J_icmp_gt 80 22 dX2_seek_19 rfl rfl (fun c4 => ?_) (fun c4 => ?_)
    · refine J_vret dX2_seek_80 rfl ?_
      exact hexit i τ (by omega) (by omega) hI
    · exfalso; omega
  | succ k ih =>
    intro i d τ hi hd hI
    have e8 : τ 8 0 = σ 8 0 := by rw [hI.2.2.2 8 (by omega) (by omega) (by omega)]
    subst hd
    refine J_iload_n (i := 3) 14 dX2_seek_13 rfl rfl rfl ?_
    refine J_iconst 15 dX2_seek_14 rfl ?_
    refine J_aload_n (i := 1) 16 dX2_seek_15 rfl rfl rfl ?_
    refine J_callSi 19 dX2_seek_16 rfl kX2_25 mX2_mostAt (c_X2_mostAt) (by first | decide | omega) rfl rfl (Nat.le_of_ble_eq_true rfl) (fun z2 s3 h1 => ?_)
    obtain ⟨rfl, rfl⟩ := h1
    refine J.top (most_e (by omega) e8) ?_
    refine J_icmp_gt 80 22 dX2_seek_19 rfl rfl (fun c4 => ?_) (fun c4 => ?_)
    · refine J_vret dX2_seek_80 rfl ?_
      exact hexit i τ (by omega) (by omega) hI
    · refine J_iconst 23 dX2_seek_22 rfl ?_
      refine J_istore 25 dX2_seek_23 rfl (by decide) ?_
      refine J.wk (l_X2_seekB (A := parA (vC σ 8) all i) hall (by omega) (fun τ2 hI2 => ?_) 10 0 0 τ rfl rfl hI) ⟨rfl, rfl, rfl, rfl, rfl, trivial⟩
      refine J_iinc 77 dX2_seek_74 rfl (by decide) rfl ?_
      refine J_goto 13 dX2_seek_77 rfl ?_
      exact ih (i + 1) _ _ (by omega) rfl hI2
theorem c_X2_seek : Ct P 7 yX2_seek cX2_seek 6 none [vr P 20, vr P 8] σ (qv (parI σ (vC σ 8) (parM (vC σ 8)))) := by
  refine Ct.bd (fun hB => ?_)
  have hvb := vC_B hB (w := 8) (Or.inr rfl)
  have hg := vC_g hB (w := 8) (Or.inr rfl)
  have hs := sumN_b hvb.2.2.2.2.1 (gM (vC σ 8))
  have e1 : vC (jup σ 20 1 (-9)) 8 = vC σ 8 := vC_up_ne _ _ _ _ _ (by omega)
  refine Ct.of _ rfl rfl rfl (Nat.le_of_ble_eq_true rfl) (fun hB => ?_)
  refine J_aload_n (i := 0) 1 dX2_seek_0 rfl rfl rfl ?_
  refine J_bipush 3 dX2_seek_1 rfl (by decide) ?_
  refine J_putI (jz := 1) (lo := (-9)) (hi := 6) 6 dX2_seek_3 rfl gX2_15 rfl rfl rfl rfl ?_
  refine J_aload_n (i := 1) 7 dX2_seek_6 rfl rfl rfl ?_
  refine J_callVi 10 dX2_seek_7 rfl kX2_19 mX7_allLoaves rfl rfl rfl (c_X7_allLoaves) (by first | decide | omega) rfl rfl (Nat.le_of_ble_eq_true rfl) (fun z2 s3 h1 => ?_)
  obtain ⟨rfl, rfl⟩ := h1
  rw [e1]
  refine J_istore_n (i := 2) 11 dX2_seek_10 rfl rfl (by decide) ?_
  refine J_iconst 12 dX2_seek_11 rfl ?_
  refine J_istore_n (i := 3) 13 dX2_seek_12 rfl rfl (by decide) ?_
  exact l_X2_seekA (by omega) 10 0 0 _ rfl rfl ⟨rfl, fun h => absurd rfl h, fun x y z => by rw [e1], fun q h1 h2 h3 => by funext j; unfold jup; rw [if_neg h2]⟩
end

