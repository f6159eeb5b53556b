/-! ===== what changes a winter; who knows whom; sheets; readings ===== -/
def jbec (σ : jS) (w o : Nat) (k : Nat) (j : Int) : Int := if w ≤ k ∧ k ≤ w + 6 then σ (k - w + o) j else σ k j
theorem jrfW : ∀ j : Nat, ((jrf 1)[j]? = some none → j < 4) ∧ ((jrf 8)[j]? = some none → j < 4) := by
  intro j
  rcases Nat.lt_or_ge j 10 with h | h
  · have key : ∀ j : Fin 10, ((jrf 1)[j.val]? = some none → j.val < 4) ∧ ((jrf 8)[j.val]? = some none → j.val < 4) := by decide +kernel
    exact key ⟨j, h⟩
  · constructor
    · intro q
      rw [List.getElem?_eq_none (by simpa [jrf, jrfl] using h)] at q
      cases q
    · intro q
      rw [List.getElem?_eq_none (by simpa [jrf, jrfl] using h)] at q
      cases q
theorem vC_bec (σ : jS) (w o : Nat) : vC (jbec σ w o) w = vC σ o := by
  funext i j
  unfold vC jbec
  by_cases h : i ≤ 6
  · rw [if_pos h, if_pos h, if_pos (by omega)]
    congr 1
    omega
  · rw [if_neg h, if_neg h]
theorem vC_set (σ : jS) (w i : Nat) (f : Int → Int) (h : i ≤ 6) : vC (jset σ (w + i) f) w = jset (vC σ w) i f := by
  funext i' j
  simp only [vC, jset]
  by_cases e : i' = i
  · subst e; simp [h]
  · have e2 : ¬ w + i' = w + i := by omega
    simp [e, e2]
theorem vC_up (σ : jS) (w i : Nat) (j z : Int) (h : i ≤ 6) : vC (jup σ (w + i) j z) w = jup (vC σ w) i j z := by
  funext i' j'
  simp only [vC, jup]
  by_cases e : i' = i
  · subst e; simp [h]
  · have e2 : ¬ w + i' = w + i := by omega
    simp [e, e2]
theorem vC_set_ne (σ : jS) (w k : Nat) (f : Int → Int) (h : k < w ∨ w + 6 < k) : vC (jset σ k f) w = vC σ w := by
  funext i' j
  simp only [vC, jset]
  by_cases h2 : i' ≤ 6
  · rw [if_pos h2, if_pos h2, if_neg (by omega)]
  · rw [if_neg h2, if_neg h2]
theorem vC_up_ne (σ : jS) (w k : Nat) (j z : Int) (h : k < w ∨ w + 6 < k) : vC (jup σ k j z) w = vC σ w := by
  funext i' j'
  simp only [vC, jup]
  by_cases h2 : i' ≤ 6
  · rw [if_pos h2, if_pos h2, if_neg (by omega)]
  · rw [if_neg h2, if_neg h2]
theorem jBd_bec {σ : jS} (h : jBd σ) : jBd (jbec σ 8 1) ∧ jBd (jbec σ 1 8) := by
  constructor
  · intro k j
    unfold jbec
    split
    · rename_i q
      rcases (show k = 8 ∨ k = 9 ∨ k = 10 ∨ k = 11 ∨ k = 12 ∨ k = 13 ∨ k = 14 by omega) with rfl | rfl | rfl | rfl | rfl | rfl | rfl
      · exact h 1 j
      · exact h 2 j
      · exact h 3 j
      · exact h 4 j
      · exact h 5 j
      · exact h 6 j
      · exact h 7 j
    · exact h k j
  · intro k j
    unfold jbec
    split
    · rename_i q
      rcases (show k = 1 ∨ k = 2 ∨ k = 3 ∨ k = 4 ∨ k = 5 ∨ k = 6 ∨ k = 7 by omega) with rfl | rfl | rfl | rfl | rfl | rfl | rfl
      · exact h 8 j
      · exact h 9 j
      · exact h 10 j
      · exact h 11 j
      · exact h 12 j
      · exact h 13 j
      · exact h 14 j
    · exact h k j
section
variable {P : jP} {w o : Nat} {c d g x y z i n : Int} {σ : jS}
theorem c_X7_begin (hw : w = 1 ∨ w = 8 := by omega) : Ct P 1 yX7_begin cX7_begin 1 none [vr P w] σ (rV (jup (jup (jup (jup σ w 0 0) w 1 0) w 2 0) w 3 1)) := by
  rcases hw with rfl | rfl <;> (
    refine Ct.of _ rfl rfl rfl (Nat.le_of_ble_eq_true rfl) (fun hB => ?_)
    refine J_aload_n (i := 0) 1 dX7_begin_0 rfl rfl rfl ?_
    refine J_iconst 2 dX7_begin_1 rfl ?_
    refine J_putI (jz := 0) (lo := 0) (hi := 3) 5 dX7_begin_2 rfl gX7_9 rfl rfl rfl rfl ?_
    refine J_aload_n (i := 0) 6 dX7_begin_5 rfl rfl rfl ?_
    refine J_iconst 7 dX7_begin_6 rfl ?_
    refine J_putI (jz := 1) (lo := 0) (hi := 6) 10 dX7_begin_7 rfl gX7_15 rfl rfl rfl rfl ?_
    refine J_aload_n (i := 0) 11 dX7_begin_10 rfl rfl rfl ?_
    refine J_iconst 12 dX7_begin_11 rfl ?_
    refine J_putI (jz := 2) (lo := 0) (hi := 2) 15 dX7_begin_12 rfl gX7_18 rfl rfl rfl rfl ?_
    refine J_aload_n (i := 0) 16 dX7_begin_15 rfl rfl rfl ?_
    refine J_iconst 17 dX7_begin_16 rfl ?_
    refine J_putI (jz := 3) (lo := 0) (hi := 9) 20 dX7_begin_17 rfl gX7_21 rfl rfl rfl rfl ?_
    refine J_vret dX7_begin_20 rfl ?_
    first | exact ⟨rfl, rfl⟩ | exact rfl | exact ⟨b01_t (by omega), rfl⟩ | exact ⟨b01_f (by omega), rfl⟩ | exact ⟨by omega, rfl⟩
  )
theorem bec_eq1 (τ : jS) (h : jEq (jbec σ 8 1) τ) {dp : Nat} {M : jMt} {pc : Nat} {L : List (Option Value)} {Q : Option Value → jS → Prop} (hJ : J P dp M pc L [] (jbec σ 8 1) Q) (hB : jBd σ) : J P dp M pc L [] τ Q := J.norm h (fun _ => (jBd_bec hB).1) hJ
theorem bec_eq2 (τ : jS) (h : jEq (jbec σ 1 8) τ) {dp : Nat} {M : jMt} {pc : Nat} {L : List (Option Value)} {Q : Option Value → jS → Prop} (hJ : J P dp M pc L [] (jbec σ 1 8) Q) (hB : jBd σ) : J P dp M pc L [] τ Q := J.norm h (fun _ => (jBd_bec hB).2) hJ
theorem bec_n1 : jEq (jbec σ 8 1) (jset (jset (jset (jset (jset (jset (jup (jup (jup (jup σ 8 0 (σ 1 0)) 8 1 (σ 1 1)) 8 2 (σ 1 2)) 8 3 (σ 1 3)) 9 (σ 2)) 10 (σ 3)) 11 (σ 4)) 12 (σ 5)) 13 (σ 6)) 14 (σ 7)) := by
  intro k hk
  unfold jbec
  by_cases h : 8 ≤ k ∧ k ≤ 14
  · rcases (show k = 8 ∨ k = 9 ∨ k = 10 ∨ k = 11 ∨ k = 12 ∨ k = 13 ∨ k = 14 by omega) with rfl | rfl | rfl | rfl | rfl | rfl | rfl
    · refine ⟨fun q => absurd q (by decide), fun _ j hj => ?_⟩
      have hj4 := (jrfW j).2 hj
      rcases (show j = 0 ∨ j = 1 ∨ j = 2 ∨ j = 3 by omega) with rfl | rfl | rfl | rfl <;> simp [jset, jup]
    all_goals exact ⟨fun _ j _ => by simp [jset, jup], fun q => absurd q (by decide)⟩
  · have e : ∀ j : Int, (if 8 ≤ k ∧ k ≤ 8 + 6 then σ (k - 8 + 1) j else σ k j) = σ k j := fun j => by rw [if_neg (by omega)]
    have e2 : ∀ j : Int, (jset (jset (jset (jset (jset (jset (jup (jup (jup (jup σ 8 0 (σ 1 0)) 8 1 (σ 1 1)) 8 2 (σ 1 2)) 8 3 (σ 1 3)) 9 (σ 2)) 10 (σ 3)) 11 (σ 4)) 12 (σ 5)) 13 (σ 6)) 14 (σ 7)) k j = σ k j := by
      intro j
      unfold jset jup
      rw [if_neg (by omega), if_neg (by omega), if_neg (by omega), if_neg (by omega), if_neg (by omega), if_neg (by omega), if_neg (by omega), if_neg (by omega), if_neg (by omega), if_neg (by omega)]
    exact ⟨fun _ j _ => by rw [e, e2], fun _ j _ => by rw [e, e2]⟩
theorem bec_n2 : jEq (jbec σ 1 8) (jset (jset (jset (jset (jset (jset (jup (jup (jup (jup σ 1 0 (σ 8 0)) 1 1 (σ 8 1)) 1 2 (σ 8 2)) 1 3 (σ 8 3)) 2 (σ 9)) 3 (σ 10)) 4 (σ 11)) 5 (σ 12)) 6 (σ 13)) 7 (σ 14)) := by
  intro k hk
  unfold jbec
  by_cases h : 1 ≤ k ∧ k ≤ 7
  · rcases (show k = 1 ∨ k = 2 ∨ k = 3 ∨ k = 4 ∨ k = 5 ∨ k = 6 ∨ k = 7 by omega) with rfl | rfl | rfl | rfl | rfl | rfl | rfl
    · refine ⟨fun q => absurd q (by decide), fun _ j hj => ?_⟩
      have hj4 := (jrfW j).1 hj
      rcases (show j = 0 ∨ j = 1 ∨ j = 2 ∨ j = 3 by omega) with rfl | rfl | rfl | rfl <;> simp [jset, jup]
    all_goals exact ⟨fun _ j _ => by simp [jset, jup], fun q => absurd q (by decide)⟩
  · have e : ∀ j : Int, (if 1 ≤ k ∧ k ≤ 1 + 6 then σ (k - 1 + 8) j else σ k j) = σ k j := fun j => by rw [if_neg (by omega)]
    have e2 : ∀ j : Int, (jset (jset (jset (jset (jset (jset (jup (jup (jup (jup σ 1 0 (σ 8 0)) 1 1 (σ 8 1)) 1 2 (σ 8 2)) 1 3 (σ 8 3)) 2 (σ 9)) 3 (σ 10)) 4 (σ 11)) 5 (σ 12)) 6 (σ 13)) 7 (σ 14)) k j = σ k j := by
      intro j
      unfold jset jup
      rw [if_neg (by omega), if_neg (by omega), if_neg (by omega), if_neg (by omega), if_neg (by omega), if_neg (by omega), if_neg (by omega), if_neg (by omega), if_neg (by omega), if_neg (by omega)]
    exact ⟨fun _ j _ => by rw [e, e2], fun _ j _ => by rw [e, e2]⟩
set_option maxHeartbeats 4000000 in
theorem c_X7_become (hw : (w = 8 ∧ o = 1) ∨ (w = 1 ∧ o = 8) := by omega) : Ct P 2 yX7_become cX7_become 2 none [vr P w, vr P o] σ (rV (jbec σ w o)) := by
  rcases hw with ⟨rfl, rfl⟩ | ⟨rfl, rfl⟩
  · refine Ct.of _ rfl rfl rfl (Nat.le_of_ble_eq_true rfl) (fun hB => ?_)
    refine J_aload_n (i := 0) 1 dX7_become_0 rfl rfl rfl ?_
    refine J_aload_n (i := 1) 2 dX7_become_1 rfl rfl rfl ?_
    refine J_getI (jz := 0) (lo := 0) (hi := 3) 5 dX7_become_2 rfl fX7_9 rfl rfl rfl rfl (fun b1 b2 => ?_)
    refine J_putI (jz := 0) (lo := 0) (hi := 3) 8 dX7_become_5 rfl gX7_9 rfl rfl rfl rfl ?_
    refine J_aload_n (i := 0) 9 dX7_become_8 rfl rfl rfl ?_
    refine J_aload_n (i := 1) 10 dX7_become_9 rfl rfl rfl ?_
    refine J_getI (jz := 1) (lo := 0) (hi := 6) 13 dX7_become_10 rfl fX7_15 rfl rfl rfl rfl (fun b3 b4 => ?_)
    try simp only [jup, jset, ↓reduceIte] at b3 b4 ⊢
    refine J_putI (jz := 1) (lo := 0) (hi := 6) 16 dX7_become_13 rfl gX7_15 rfl rfl rfl rfl ?_
    refine J_aload_n (i := 0) 17 dX7_become_16 rfl rfl rfl ?_
    refine J_aload_n (i := 1) 18 dX7_become_17 rfl rfl rfl ?_
    refine J_getI (jz := 2) (lo := 0) (hi := 2) 21 dX7_become_18 rfl fX7_18 rfl rfl rfl rfl (fun b5 b6 => ?_)
    try simp only [jup, jset, ↓reduceIte] at b5 b6 ⊢
    refine J_putI (jz := 2) (lo := 0) (hi := 2) 24 dX7_become_21 rfl gX7_18 rfl rfl rfl rfl ?_
    refine J_aload_n (i := 0) 25 dX7_become_24 rfl rfl rfl ?_
    refine J_aload_n (i := 1) 26 dX7_become_25 rfl rfl rfl ?_
    refine J_getI (jz := 3) (lo := 0) (hi := 9) 29 dX7_become_26 rfl fX7_21 rfl rfl rfl rfl (fun b7 b8 => ?_)
    try simp only [jup, jset, ↓reduceIte] at b7 b8 ⊢
    refine J_putI (jz := 3) (lo := 0) (hi := 9) 32 dX7_become_29 rfl gX7_21 rfl rfl rfl rfl ?_
    refine J_aload_n (i := 1) 33 dX7_become_32 rfl rfl rfl ?_
    refine J_getR 36 dX7_become_33 rfl fX7_24 rfl rfl ?_
    refine J_iconst 37 dX7_become_36 rfl ?_
    refine J_aload_n (i := 0) 38 dX7_become_37 rfl rfl rfl ?_
    refine J_getR 41 dX7_become_38 rfl fX7_24 rfl rfl ?_
    refine J_iconst 42 dX7_become_41 rfl ?_
    refine J_iconst 43 dX7_become_42 rfl ?_
    refine J_copyA (Na := 3) (Nb := 3) 46 dX7_become_43 rfl kX7_43 rfl rfl rfl rfl rfl (by decide) rfl ?_
    refine J_aload_n (i := 1) 47 dX7_become_46 rfl rfl rfl ?_
    refine J_getR 50 dX7_become_47 rfl fX7_28 rfl rfl ?_
    refine J_iconst 51 dX7_become_50 rfl ?_
    refine J_aload_n (i := 0) 52 dX7_become_51 rfl rfl rfl ?_
    refine J_getR 55 dX7_become_52 rfl fX7_28 rfl rfl ?_
    refine J_iconst 56 dX7_become_55 rfl ?_
    refine J_bipush 58 dX7_become_56 rfl (by decide) ?_
    refine J_copyA (Na := 6) (Nb := 6) 61 dX7_become_58 rfl kX7_43 rfl rfl rfl rfl rfl (by decide) rfl ?_
    refine J_aload_n (i := 1) 62 dX7_become_61 rfl rfl rfl ?_
    refine J_getR 65 dX7_become_62 rfl fX7_31 rfl rfl ?_
    refine J_iconst 66 dX7_become_65 rfl ?_
    refine J_aload_n (i := 0) 67 dX7_become_66 rfl rfl rfl ?_
    refine J_getR 70 dX7_become_67 rfl fX7_31 rfl rfl ?_
    refine J_iconst 71 dX7_become_70 rfl ?_
    refine J_bipush 73 dX7_become_71 rfl (by decide) ?_
    refine J_copyA (Na := 6) (Nb := 6) 76 dX7_become_73 rfl kX7_43 rfl rfl rfl rfl rfl (by decide) rfl ?_
    refine J_aload_n (i := 1) 77 dX7_become_76 rfl rfl rfl ?_
    refine J_getR 80 dX7_become_77 rfl fX7_34 rfl rfl ?_
    refine J_iconst 81 dX7_become_80 rfl ?_
    refine J_aload_n (i := 0) 82 dX7_become_81 rfl rfl rfl ?_
    refine J_getR 85 dX7_become_82 rfl fX7_34 rfl rfl ?_
    refine J_iconst 86 dX7_become_85 rfl ?_
    refine J_bipush 88 dX7_become_86 rfl (by decide) ?_
    refine J_copyA (Na := 6) (Nb := 6) 91 dX7_become_88 rfl kX7_43 rfl rfl rfl rfl rfl (by decide) rfl ?_
    refine J_aload_n (i := 1) 92 dX7_become_91 rfl rfl rfl ?_
    refine J_getR 95 dX7_become_92 rfl fX7_37 rfl rfl ?_
    refine J_iconst 96 dX7_become_95 rfl ?_
    refine J_aload_n (i := 0) 97 dX7_become_96 rfl rfl rfl ?_
    refine J_getR 100 dX7_become_97 rfl fX7_37 rfl rfl ?_
    refine J_iconst 101 dX7_become_100 rfl ?_
    refine J_bipush 103 dX7_become_101 rfl (by decide) ?_
    refine J_copyA (Na := 6) (Nb := 6) 106 dX7_become_103 rfl kX7_43 rfl rfl rfl rfl rfl (by decide) rfl ?_
    refine J_aload_n (i := 1) 107 dX7_become_106 rfl rfl rfl ?_
    refine J_getR 110 dX7_become_107 rfl fX7_40 rfl rfl ?_
    refine J_iconst 111 dX7_become_110 rfl ?_
    refine J_aload_n (i := 0) 112 dX7_become_111 rfl rfl rfl ?_
    refine J_getR 115 dX7_become_112 rfl fX7_40 rfl rfl ?_
    refine J_iconst 116 dX7_become_115 rfl ?_
    refine J_bipush 118 dX7_become_116 rfl (by decide) ?_
    refine J_copyA (Na := 6) (Nb := 6) 121 dX7_become_118 rfl kX7_43 rfl rfl rfl rfl rfl (by decide) rfl ?_
    exact bec_eq1 _ bec_n1 (J_vret dX7_become_121 rfl rfl) hB
  · refine Ct.of _ rfl rfl rfl (Nat.le_of_ble_eq_true rfl) (fun hB => ?_)
    refine J_aload_n (i := 0) 1 dX7_become_0 rfl rfl rfl ?_
    refine J_aload_n (i := 1) 2 dX7_become_1 rfl rfl rfl ?_
    refine J_getI (jz := 0) (lo := 0) (hi := 3) 5 dX7_become_2 rfl fX7_9 rfl rfl rfl rfl (fun b1 b2 => ?_)
    refine J_putI (jz := 0) (lo := 0) (hi := 3) 8 dX7_become_5 rfl gX7_9 rfl rfl rfl rfl ?_
    refine J_aload_n (i := 0) 9 dX7_become_8 rfl rfl rfl ?_
    refine J_aload_n (i := 1) 10 dX7_become_9 rfl rfl rfl ?_
    refine J_getI (jz := 1) (lo := 0) (hi := 6) 13 dX7_become_10 rfl fX7_15 rfl rfl rfl rfl (fun b3 b4 => ?_)
    try simp only [jup, jset, ↓reduceIte] at b3 b4 ⊢
    refine J_putI (jz := 1) (lo := 0) (hi := 6) 16 dX7_become_13 rfl gX7_15 rfl rfl rfl rfl ?_
    refine J_aload_n (i := 0) 17 dX7_become_16 rfl rfl rfl ?_
    refine J_aload_n (i := 1) 18 dX7_become_17 rfl rfl rfl ?_
    refine J_getI (jz := 2) (lo := 0) (hi := 2) 21 dX7_become_18 rfl fX7_18 rfl rfl rfl rfl (fun b5 b6 => ?_)
    try simp only [jup, jset, ↓reduceIte] at b5 b6 ⊢
    refine J_putI (jz := 2) (lo := 0) (hi := 2) 24 dX7_become_21 rfl gX7_18 rfl rfl rfl rfl ?_
    refine J_aload_n (i := 0) 25 dX7_become_24 rfl rfl rfl ?_
    refine J_aload_n (i := 1) 26 dX7_become_25 rfl rfl rfl ?_
    refine J_getI (jz := 3) (lo := 0) (hi := 9) 29 dX7_become_26 rfl fX7_21 rfl rfl rfl rfl (fun b7 b8 => ?_)
    try simp only [jup, jset, ↓reduceIte] at b7 b8 ⊢
    refine J_putI (jz := 3) (lo := 0) (hi := 9) 32 dX7_become_29 rfl gX7_21 rfl rfl rfl rfl ?_
    refine J_aload_n (i := 1) 33 dX7_become_32 rfl rfl rfl ?_
    refine J_getR 36 dX7_become_33 rfl fX7_24 rfl rfl ?_
    refine J_iconst 37 dX7_become_36 rfl ?_
    refine J_aload_n (i := 0) 38 dX7_become_37 rfl rfl rfl ?_
    refine J_getR 41 dX7_become_38 rfl fX7_24 rfl rfl ?_
    refine J_iconst 42 dX7_become_41 rfl ?_
    refine J_iconst 43 dX7_become_42 rfl ?_
    refine J_copyA (Na := 3) (Nb := 3) 46 dX7_become_43 rfl kX7_43 rfl rfl rfl rfl rfl (by decide) rfl ?_
    refine J_aload_n (i := 1) 47 dX7_become_46 rfl rfl rfl ?_
    refine J_getR 50 dX7_become_47 rfl fX7_28 rfl rfl ?_
    refine J_iconst 51 dX7_become_50 rfl ?_
    refine J_aload_n (i := 0) 52 dX7_become_51 rfl rfl rfl ?_
    refine J_getR 55 dX7_become_52 rfl fX7_28 rfl rfl ?_
    refine J_iconst 56 dX7_become_55 rfl ?_
    refine J_bipush 58 dX7_become_56 rfl (by decide) ?_
    refine J_copyA (Na := 6) (Nb := 6) 61 dX7_become_58 rfl kX7_43 rfl rfl rfl rfl rfl (by decide) rfl ?_
    refine J_aload_n (i := 1) 62 dX7_become_61 rfl rfl rfl ?_
    refine J_getR 65 dX7_become_62 rfl fX7_31 rfl rfl ?_
    refine J_iconst 66 dX7_become_65 rfl ?_
    refine J_aload_n (i := 0) 67 dX7_become_66 rfl rfl rfl ?_
    refine J_getR 70 dX7_become_67 rfl fX7_31 rfl rfl ?_
    refine J_iconst 71 dX7_become_70 rfl ?_
    refine J_bipush 73 dX7_become_71 rfl (by decide) ?_
    refine J_copyA (Na := 6) (Nb := 6) 76 dX7_become_73 rfl kX7_43 rfl rfl rfl rfl rfl (by decide) rfl ?_
    refine J_aload_n (i := 1) 77 dX7_become_76 rfl rfl rfl ?_
    refine J_getR 80 dX7_become_77 rfl fX7_34 rfl rfl ?_
    refine J_iconst 81 dX7_become_80 rfl ?_
    refine J_aload_n (i := 0) 82 dX7_become_81 rfl rfl rfl ?_
    refine J_getR 85 dX7_become_82 rfl fX7_34 rfl rfl ?_
    refine J_iconst 86 dX7_become_85 rfl ?_
    refine J_bipush 88 dX7_become_86 rfl (by decide) ?_
    refine J_copyA (Na := 6) (Nb := 6) 91 dX7_become_88 rfl kX7_43 rfl rfl rfl rfl rfl (by decide) rfl ?_
    refine J_aload_n (i := 1) 92 dX7_become_91 rfl rfl rfl ?_
    refine J_getR 95 dX7_become_92 rfl fX7_37 rfl rfl ?_
    refine J_iconst 96 dX7_become_95 rfl ?_
    refine J_aload_n (i := 0) 97 dX7_become_96 rfl rfl rfl ?_
    refine J_getR 100 dX7_become_97 rfl fX7_37 rfl rfl ?_
    refine J_iconst 101 dX7_become_100 rfl ?_
    refine J_bipush 103 dX7_become_101 rfl (by decide) ?_
    refine J_copyA (Na := 6) (Nb := 6) 106 dX7_become_103 rfl kX7_43 rfl rfl rfl rfl rfl (by decide) rfl ?_
    refine J_aload_n (i := 1) 107 dX7_become_106 rfl rfl rfl ?_
    refine J_getR 110 dX7_become_107 rfl fX7_40 rfl rfl ?_
    refine J_iconst 111 dX7_become_110 rfl ?_
    refine J_aload_n (i := 0) 112 dX7_become_111 rfl rfl rfl ?_
    refine J_getR 115 dX7_become_112 rfl fX7_40 rfl rfl ?_
    refine J_iconst 116 dX7_become_115 rfl ?_
    refine J_bipush 118 dX7_become_116 rfl (by decide) ?_
    refine J_copyA (Na := 6) (Nb := 6) 121 dX7_become_118 rfl kX7_43 rfl rfl rfl rfl rfl (by decide) rfl ?_
    exact bec_eq2 _ bec_n2 (J_vret dX7_become_121 rfl rfl) hB

def mostM (a : Int) : Int := if a < 0 ∨ 17 ≤ a then -1 else if a = 6 then 2 else if 11 ≤ a then 2 else 9
theorem c_X7_mostToldWith (hx : inR x := by omega) : Ct P 1 yX7_mostToldWith cX7_mostToldWith 1 (some .int) [vi x] σ (rI (mostM x) σ) := by
  refine Ct.of _ rfl rfl rfl (Nat.le_of_ble_eq_true rfl) (fun hB => ?_)
  refine J_iload_n (i := 0) 1 dX7_mostToldWith_0 rfl rfl rfl ?_
  refine J_if_lt 10 4 dX7_mostToldWith_1 rfl rfl (fun c1 => ?_) (fun c1 => ?_)
  · refine J_iconst 11 dX7_mostToldWith_10 rfl ?_
    refine J_iret dX7_mostToldWith_11 rfl ?_
    refine ⟨?_, rfl⟩
    unfold mostM
    first | (rw [if_pos (by omega)]; done) | (rw [if_neg (by omega), if_pos (by omega)]; done) | (rw [if_neg (by omega), if_neg (by omega), if_pos (by omega)]; done) | (rw [if_neg (by omega), if_neg (by omega), if_neg (by omega)]; done)
  · refine J_iload_n (i := 0) 5 dX7_mostToldWith_4 rfl rfl rfl ?_
    refine J_bipush 7 dX7_mostToldWith_5 rfl (by decide) ?_
    refine J_icmp_lt 12 10 dX7_mostToldWith_7 rfl rfl (fun c2 => ?_) (fun c2 => ?_)
    · refine J_iload_n (i := 0) 13 dX7_mostToldWith_12 rfl rfl rfl ?_
      refine J_bipush 15 dX7_mostToldWith_13 rfl (by decide) ?_
      refine J_icmp_ne 20 18 dX7_mostToldWith_15 rfl rfl (fun c3 => ?_) (fun c3 => ?_)
      · refine J_iload_n (i := 0) 21 dX7_mostToldWith_20 rfl rfl rfl ?_
        refine J_bipush 23 dX7_mostToldWith_21 rfl (by decide) ?_
        refine J_icmp_lt 30 26 dX7_mostToldWith_23 rfl rfl (fun c4 => ?_) (fun c4 => ?_)
        · refine J_bipush 32 dX7_mostToldWith_30 rfl (by decide) ?_
          refine J_iret dX7_mostToldWith_32 rfl ?_
          refine ⟨?_, rfl⟩
          unfold mostM
          first | (rw [if_pos (by omega)]; done) | (rw [if_neg (by omega), if_pos (by omega)]; done) | (rw [if_neg (by omega), if_neg (by omega), if_pos (by omega)]; done) | (rw [if_neg (by omega), if_neg (by omega), if_neg (by omega)]; done)
        · refine J_iconst 27 dX7_mostToldWith_26 rfl ?_
          refine J_goto 32 dX7_mostToldWith_27 rfl ?_
          refine J_iret dX7_mostToldWith_32 rfl ?_
          refine ⟨?_, rfl⟩
          unfold mostM
          first | (rw [if_pos (by omega)]; done) | (rw [if_neg (by omega), if_pos (by omega)]; done) | (rw [if_neg (by omega), if_neg (by omega), if_pos (by omega)]; done) | (rw [if_neg (by omega), if_neg (by omega), if_neg (by omega)]; done)
      · refine J_iconst 19 dX7_mostToldWith_18 rfl ?_
        refine J_iret dX7_mostToldWith_19 rfl ?_
        refine ⟨?_, rfl⟩
        unfold mostM
        first | (rw [if_pos (by omega)]; done) | (rw [if_neg (by omega), if_pos (by omega)]; done) | (rw [if_neg (by omega), if_neg (by omega), if_pos (by omega)]; done) | (rw [if_neg (by omega), if_neg (by omega), if_neg (by omega)]; done)
    · refine J_iconst 11 dX7_mostToldWith_10 rfl ?_
      refine J_iret dX7_mostToldWith_11 rfl ?_
      refine ⟨?_, rfl⟩
      unfold mostM
      first | (rw [if_pos (by omega)]; done) | (rw [if_neg (by omega), if_pos (by omega)]; done) | (rw [if_neg (by omega), if_neg (by omega), if_pos (by omega)]; done) | (rw [if_neg (by omega), if_neg (by omega), if_neg (by omega)]; done)
def actI (a : Int) : Nat := if a < 6 then 4 else if 11 ≤ a then 5 else if 8 ≤ a then 1 else 0
def actJ (a : Int) : Int := if a < 6 then a else if 11 ≤ a then a - 11 else if 8 ≤ a then a - 8 else if a = 6 then 2 else 3
def actOK (v : jS) (a x : Int) : Bool := if a < 6 then decide (0 ≤ a ∧ a < v 0 1) else if 11 ≤ a then decide ((0 ≤ a - 11 ∧ a - 11 < v 0 1) ∧ 0 ≤ x ∧ x < v 0 0) else if 8 ≤ a then decide (0 ≤ a - 8 ∧ a - 8 < v 0 0) else true
theorem c_X7_changeShow (hw : w = 1 ∨ w = 8 := by omega) (hc : inR c := by omega) (hx : 0 ≤ x ∧ x ≤ 9 := by omega) : Ct P 2 yX7_changeShow cX7_changeShow 3 (some .boolean) [vr P w, vi c, vi x] σ (qi fun z σ' => b01 (0 ≤ c ∧ c < σ w 1) = z ∧ (if 0 ≤ c ∧ c < σ w 1 then jup σ (w + 4) c x else σ) = σ') := by
  refine Ct.bd (fun hB => ?_)
  have hn := vC_n hB hw
  rcases hw with rfl | rfl <;> (
    refine Ct.of _ rfl rfl rfl (Nat.le_of_ble_eq_true rfl) (fun hB => ?_)
    refine J_aload_n (i := 0) 1 dX7_changeShow_0 rfl rfl rfl ?_
    refine J_iload_n (i := 1) 2 dX7_changeShow_1 rfl rfl rfl ?_
    refine J_callVi 5 dX7_changeShow_2 rfl kX7_97 mX7_hasComer rfl rfl rfl (c_X7_hasComer) (by decide) rfl rfl (Nat.le_of_ble_eq_true rfl) (fun z2 s3 h1 => ?_)
    obtain ⟨rfl, rfl⟩ := h1
    refine J_bif_ne 10 8 dX7_changeShow_5 rfl rfl (fun c4 => ?_) (fun c4 => ?_)
    · refine J_aload_n (i := 0) 11 dX7_changeShow_10 rfl rfl rfl ?_
      refine J_getR 14 dX7_changeShow_11 rfl fX7_34 rfl rfl ?_
      refine J_iload_n (i := 1) 15 dX7_changeShow_14 rfl rfl rfl ?_
      refine J_iload_n (i := 2) 16 dX7_changeShow_15 rfl rfl rfl ?_
      refine J_iast (N := 6) (lo := 0) (hi := 9) 17 dX7_changeShow_16 rfl rfl rfl rfl ?_
      refine J_iconst 18 dX7_changeShow_17 rfl ?_
      refine J_zret dX7_changeShow_18 rfl ?_
      first | exact ⟨b01_t (by omega), if_pos (by omega)⟩ | exact ⟨b01_f (by omega), if_neg (by omega)⟩
    · refine J_iconst 9 dX7_changeShow_8 rfl ?_
      refine J_zret dX7_changeShow_9 rfl ?_
      first | exact ⟨b01_t (by omega), if_pos (by omega)⟩ | exact ⟨b01_f (by omega), if_neg (by omega)⟩
  )
theorem c_X7_changeLoaves (hw : w = 1 ∨ w = 8 := by omega) (hc : inR c := by omega) (hx : 0 ≤ x ∧ x ≤ 9 := by omega) : Ct P 2 yX7_changeLoaves cX7_changeLoaves 3 (some .boolean) [vr P w, vi c, vi x] σ (qi fun z σ' => b01 (0 ≤ c ∧ c < σ w 0) = z ∧ (if 0 ≤ c ∧ c < σ w 0 then jup σ (w + 1) c x else σ) = σ') := by
  refine Ct.bd (fun hB => ?_)
  have hn := vC_g hB hw
  rcases hw with rfl | rfl <;> (
    refine Ct.of _ rfl rfl rfl (Nat.le_of_ble_eq_true rfl) (fun hB => ?_)
    refine J_aload_n (i := 0) 1 dX7_changeLoaves_0 rfl rfl rfl ?_
    refine J_iload_n (i := 1) 2 dX7_changeLoaves_1 rfl rfl rfl ?_
    refine J_callVi 5 dX7_changeLoaves_2 rfl kX7_101 mX7_hasGate rfl rfl rfl (c_X7_hasGate) (by decide) rfl rfl (Nat.le_of_ble_eq_true rfl) (fun z2 s3 h1 => ?_)
    obtain ⟨rfl, rfl⟩ := h1
    refine J_bif_ne 10 8 dX7_changeLoaves_5 rfl rfl (fun c4 => ?_) (fun c4 => ?_)
    · refine J_aload_n (i := 0) 11 dX7_changeLoaves_10 rfl rfl rfl ?_
      refine J_getR 14 dX7_changeLoaves_11 rfl fX7_24 rfl rfl ?_
      refine J_iload_n (i := 1) 15 dX7_changeLoaves_14 rfl rfl rfl ?_
      refine J_iload_n (i := 2) 16 dX7_changeLoaves_15 rfl rfl rfl ?_
      refine J_iast (N := 3) (lo := 0) (hi := 9) 17 dX7_changeLoaves_16 rfl rfl rfl rfl ?_
      refine J_iconst 18 dX7_changeLoaves_17 rfl ?_
      refine J_zret dX7_changeLoaves_18 rfl ?_
      first | exact ⟨b01_t (by omega), if_pos (by omega)⟩ | exact ⟨b01_f (by omega), if_neg (by omega)⟩
    · refine J_iconst 9 dX7_changeLoaves_8 rfl ?_
      refine J_zret dX7_changeLoaves_9 rfl ?_
      first | exact ⟨b01_t (by omega), if_pos (by omega)⟩ | exact ⟨b01_f (by omega), if_neg (by omega)⟩
  )
theorem c_X7_changeGate (hw : w = 1 ∨ w = 8 := by omega) (hc : inR c := by omega) (hx : inR x := by omega) : Ct P 2 yX7_changeGate cX7_changeGate 3 (some .boolean) [vr P w, vi c, vi x] σ (qi fun z σ' => b01 ((0 ≤ c ∧ c < σ w 1) ∧ 0 ≤ x ∧ x < σ w 0) = z ∧ (if (0 ≤ c ∧ c < σ w 1) ∧ 0 ≤ x ∧ x < σ w 0 then jup σ (w + 5) c x else σ) = σ') := by
  refine Ct.bd (fun hB => ?_)
  have hn := vC_n hB hw
  have hg := vC_g hB hw
  rcases hw with rfl | rfl <;> (
    refine Ct.of _ rfl rfl rfl (Nat.le_of_ble_eq_true rfl) (fun hB => ?_)
    refine J_aload_n (i := 0) 1 dX7_changeGate_0 rfl rfl rfl ?_
    refine J_iload_n (i := 1) 2 dX7_changeGate_1 rfl rfl rfl ?_
    refine J_callVi 5 dX7_changeGate_2 rfl kX7_97 mX7_hasComer rfl rfl rfl (c_X7_hasComer) (by decide) rfl rfl (Nat.le_of_ble_eq_true rfl) (fun z2 s3 h1 => ?_)
    obtain ⟨rfl, rfl⟩ := h1
    refine J_bif_eq 16 8 dX7_changeGate_5 rfl rfl (fun c4 => ?_) (fun c4 => ?_)
    · refine J_iconst 17 dX7_changeGate_16 rfl ?_
      refine J_zret dX7_changeGate_17 rfl ?_
      first | exact ⟨b01_t (by omega), if_pos (by omega)⟩ | exact ⟨b01_f (by omega), if_neg (by omega)⟩
    · refine J_aload_n (i := 0) 9 dX7_changeGate_8 rfl rfl rfl ?_
      refine J_iload_n (i := 2) 10 dX7_changeGate_9 rfl rfl rfl ?_
      refine J_callVi 13 dX7_changeGate_10 rfl kX7_101 mX7_hasGate rfl rfl rfl (c_X7_hasGate) (by decide) rfl rfl (Nat.le_of_ble_eq_true rfl) (fun z6 s7 h5 => ?_)
      obtain ⟨rfl, rfl⟩ := h5
      refine J_bif_ne 18 16 dX7_changeGate_13 rfl rfl (fun c8 => ?_) (fun c8 => ?_)
      · refine J_aload_n (i := 0) 19 dX7_changeGate_18 rfl rfl rfl ?_
        refine J_getR 22 dX7_changeGate_19 rfl fX7_37 rfl rfl ?_
        refine J_iload_n (i := 1) 23 dX7_changeGate_22 rfl rfl rfl ?_
        refine J_iload_n (i := 2) 24 dX7_changeGate_23 rfl rfl rfl ?_
        refine J_iast (N := 6) (lo := 0) (hi := 2) 25 dX7_changeGate_24 rfl rfl rfl rfl ?_
        refine J_iconst 26 dX7_changeGate_25 rfl ?_
        refine J_zret dX7_changeGate_26 rfl ?_
        first | exact ⟨b01_t (by omega), if_pos (by omega)⟩ | exact ⟨b01_f (by omega), if_neg (by omega)⟩
      · refine J_iconst 17 dX7_changeGate_16 rfl ?_
        refine J_zret dX7_changeGate_17 rfl ?_
        first | exact ⟨b01_t (by omega), if_pos (by omega)⟩ | exact ⟨b01_f (by omega), if_neg (by omega)⟩
  )
def actS (σ : jS) (w : Nat) (a x : Int) : jS := if actOK (vC σ w) a x = true then jup σ (w + actI a) (actJ a) x else σ
theorem c_X7_perform (hw : w = 1 ∨ w = 8 := by omega) (hc : 0 ≤ c ∧ c ≤ 16 := by omega) (hx : 0 ≤ x ∧ x ≤ mostM c) : Ct P 3 yX7_perform cX7_perform 3 (some .boolean) [vr P w, vi c, vi x] σ (qi fun z σ' => b01 (actOK (vC σ w) c x = true) = z ∧ actS σ w c x = σ') := by
  have hm : x ≤ 9 ∧ (c = 6 → x ≤ 2) := by
    unfold mostM at hx
    split at hx
    · omega
    · split at hx
      · omega
      · split at hx <;> omega
  have e1 : c < 6 → actI c = 4 ∧ actJ c = c ∧ ∀ v : jS, (actOK v c x = true ↔ (0 ≤ c ∧ c < v 0 1)) := fun h => by
    unfold actI actJ actOK
    simp only [if_pos h, decide_eq_true_eq, and_self, implies_true]
  have e2 : 11 ≤ c → actI c = 5 ∧ actJ c = c - 11 ∧ ∀ v : jS, (actOK v c x = true ↔ ((0 ≤ c - 11 ∧ c - 11 < v 0 1) ∧ 0 ≤ x ∧ x < v 0 0)) := fun h => by
    unfold actI actJ actOK
    simp only [if_neg (show ¬ c < 6 by omega), if_pos h, decide_eq_true_eq, and_self, implies_true]
  have e3 : ¬ c < 6 → ¬ 11 ≤ c → 8 ≤ c → actI c = 1 ∧ actJ c = c - 8 ∧ ∀ v : jS, (actOK v c x = true ↔ (0 ≤ c - 8 ∧ c - 8 < v 0 0)) := fun h1 h2 h3 => by
    unfold actI actJ actOK
    simp only [if_neg h1, if_neg h2, if_pos h3, decide_eq_true_eq, and_self, implies_true]
  have e4 : ¬ c < 6 → ¬ 8 ≤ c → actI c = 0 ∧ actJ c = (if c = 6 then 2 else 3) ∧ ∀ v : jS, actOK v c x = true := fun h1 h3 => by
    unfold actI actJ actOK
    simp only [if_neg h1, if_neg (show ¬ 11 ≤ c by omega), if_neg h3, and_self, implies_true]
  rcases hw with rfl | rfl <;> (
    refine Ct.of _ rfl rfl rfl (Nat.le_of_ble_eq_true rfl) (fun hB => ?_)
    refine J_iload_n (i := 1) 1 dX7_perform_0 rfl rfl rfl ?_
    refine J_bipush 3 dX7_perform_1 rfl (by decide) ?_
    refine J_icmp_ge 13 6 dX7_perform_3 rfl rfl (fun c1 => ?_) (fun c1 => ?_)
    · refine J_iload_n (i := 1) 14 dX7_perform_13 rfl rfl rfl ?_
      refine J_bipush 16 dX7_perform_14 rfl (by decide) ?_
      refine J_icmp_lt 29 19 dX7_perform_16 rfl rfl (fun c2 => ?_) (fun c2 => ?_)
      · refine J_iload_n (i := 1) 30 dX7_perform_29 rfl rfl rfl ?_
        refine J_bipush 32 dX7_perform_30 rfl (by decide) ?_
        refine J_icmp_lt 45 35 dX7_perform_32 rfl rfl (fun c3 => ?_) (fun c3 => ?_)
        · refine J_iload_n (i := 1) 46 dX7_perform_45 rfl rfl rfl ?_
          refine J_bipush 48 dX7_perform_46 rfl (by decide) ?_
          refine J_icmp_ne 59 51 dX7_perform_48 rfl rfl (fun c4 => ?_) (fun c4 => ?_)
          · refine J_aload_n (i := 0) 60 dX7_perform_59 rfl rfl rfl ?_
            refine J_iload_n (i := 2) 61 dX7_perform_60 rfl rfl rfl ?_
            refine J_putI (jz := 3) (lo := 0) (hi := 9) 64 dX7_perform_61 rfl gX7_21 rfl rfl rfl rfl ?_
            refine J_iconst 65 dX7_perform_64 rfl ?_
            refine J_zret dX7_perform_65 rfl ?_
            first
              | (refine ⟨?_, ?_⟩; (unfold b01; simp only [q3]; rfl); (unfold actS; rw [q1, q2]; simp only [q3]; rfl))
              | (obtain ⟨q1, q2, q3⟩ := e4 (by omega) (by omega); refine ⟨b01_t (q3 _), ?_⟩; unfold actS; rw [if_pos (q3 _), q1, q2]; first | (rw [if_pos (by omega)]; done) | (rw [if_neg (by omega)]; done))
          · refine J_aload_n (i := 0) 52 dX7_perform_51 rfl rfl rfl ?_
            refine J_iload_n (i := 2) 53 dX7_perform_52 rfl rfl rfl ?_
            refine J_putI (jz := 2) (lo := 0) (hi := 2) 56 dX7_perform_53 rfl gX7_18 rfl rfl rfl rfl ?_
            refine J_goto 64 dX7_perform_56 rfl ?_
            refine J_iconst 65 dX7_perform_64 rfl ?_
            refine J_zret dX7_perform_65 rfl ?_
            first
              | (refine ⟨?_, ?_⟩; (unfold b01; simp only [q3]; rfl); (unfold actS; rw [q1, q2]; simp only [q3]; rfl))
              | (obtain ⟨q1, q2, q3⟩ := e4 (by omega) (by omega); refine ⟨b01_t (q3 _), ?_⟩; unfold actS; rw [if_pos (q3 _), q1, q2]; first | (rw [if_pos (by omega)]; done) | (rw [if_neg (by omega)]; done))
        · refine J_aload_n (i := 0) 36 dX7_perform_35 rfl rfl rfl ?_
          refine J_iload_n (i := 1) 37 dX7_perform_36 rfl rfl rfl ?_
          refine J_bipush 39 dX7_perform_37 rfl (by decide) ?_
          refine J_isub 40 dX7_perform_39 rfl ?_
          refine J_iload_n (i := 2) 41 dX7_perform_40 rfl rfl rfl ?_
          refine J_callVi 44 dX7_perform_41 rfl kX7_94 mX7_changeLoaves rfl rfl rfl (c_X7_changeLoaves) (by decide) rfl rfl (Nat.le_of_ble_eq_true rfl) (fun z6 s7 h5 => ?_)
          obtain ⟨rfl, rfl⟩ := h5
          obtain ⟨q1, q2, q3⟩ := e3 (by omega) (by omega) (by omega)
          refine J_zret dX7_perform_44 rfl ?_
          first
            | (refine ⟨?_, ?_⟩; (unfold b01; simp only [q3]; rfl); (unfold actS; rw [q1, q2]; simp only [q3]; rfl))
            | (obtain ⟨q1, q2, q3⟩ := e4 (by omega) (by omega); refine ⟨b01_t (q3 _), ?_⟩; unfold actS; rw [if_pos (q3 _), q1, q2]; first | (rw [if_pos (by omega)]; done) | (rw [if_neg (by omega)]; done))
      · refine J_aload_n (i := 0) 20 dX7_perform_19 rfl rfl rfl ?_
        refine J_iload_n (i := 1) 21 dX7_perform_20 rfl rfl rfl ?_
        refine J_bipush 23 dX7_perform_21 rfl (by decide) ?_
        refine J_isub 24 dX7_perform_23 rfl ?_
        refine J_iload_n (i := 2) 25 dX7_perform_24 rfl rfl rfl ?_
        refine J_callVi 28 dX7_perform_25 rfl kX7_91 mX7_changeGate rfl rfl rfl (c_X7_changeGate) (by decide) rfl rfl (Nat.le_of_ble_eq_true rfl) (fun z9 s10 h8 => ?_)
        obtain ⟨rfl, rfl⟩ := h8
        obtain ⟨q1, q2, q3⟩ := e2 (by omega)
        refine J_zret dX7_perform_28 rfl ?_
        first
          | (refine ⟨?_, ?_⟩; (unfold b01; simp only [q3]; rfl); (unfold actS; rw [q1, q2]; simp only [q3]; rfl))
          | (obtain ⟨q1, q2, q3⟩ := e4 (by omega) (by omega); refine ⟨b01_t (q3 _), ?_⟩; unfold actS; rw [if_pos (q3 _), q1, q2]; first | (rw [if_pos (by omega)]; done) | (rw [if_neg (by omega)]; done))
    · refine J_aload_n (i := 0) 7 dX7_perform_6 rfl rfl rfl ?_
      refine J_iload_n (i := 1) 8 dX7_perform_7 rfl rfl rfl ?_
      refine J_iload_n (i := 2) 9 dX7_perform_8 rfl rfl rfl ?_
      refine J_callVi 12 dX7_perform_9 rfl kX7_87 mX7_changeShow rfl rfl rfl (c_X7_changeShow) (by decide) rfl rfl (Nat.le_of_ble_eq_true rfl) (fun z12 s13 h11 => ?_)
      obtain ⟨rfl, rfl⟩ := h11
      obtain ⟨q1, q2, q3⟩ := e1 (by omega)
      refine J_zret dX7_perform_12 rfl ?_
      first
        | (refine ⟨?_, ?_⟩; (unfold b01; simp only [q3]; rfl); (unfold actS; rw [q1, q2]; simp only [q3]; rfl))
        | (obtain ⟨q1, q2, q3⟩ := e4 (by omega) (by omega); refine ⟨b01_t (q3 _), ?_⟩; unfold actS; rw [if_pos (q3 _), q1, q2]; first | (rw [if_pos (by omega)]; done) | (rw [if_neg (by omega)]; done))
  )

def passF (v : jS) (j : Int) : Int := if outM v j = true then (if v 4 j + 1 < 9 then v 4 j + 1 else 9) else if 0 < v 3 j then (if 0 < v 4 j - 1 then v 4 j - 1 else 0) else v 4 j
def passN (v : jS) (n : Nat) (j : Int) : Int := if 0 ≤ j ∧ j < n then passF v j else v 4 j
theorem pass_up {v : jS} {q i : Nat} {z : Int} (hz : z = passF v i) : jup (jset σ q (passN v i)) q i z = jset σ q (passN v (i + 1)) := by
  funext k' j'
  unfold jup jset passN
  by_cases e : k' = q
  · rw [if_pos e, if_pos e, if_pos e]
    by_cases e2 : j' = i
    · rw [if_pos e2, if_pos (by omega), hz, e2]
    · rw [if_neg e2]
      by_cases e3 : 0 ≤ j' ∧ j' < i
      · rw [if_pos e3, if_pos (by omega)]
      · rw [if_neg e3, if_neg (by omega)]
  · rw [if_neg e, if_neg e, if_neg e]
theorem pass_no {v : jS} {q i : Nat} (hz : v 4 i = passF v i) : jset σ q (passN v i) = jset σ q (passN v (i + 1)) := by
  funext k' j'
  unfold jset passN
  by_cases e : k' = q
  · rw [if_pos e, if_pos e]
    by_cases e2 : j' = i
    · rw [if_neg (by omega), if_pos (by omega), e2, hz]
    · by_cases e3 : 0 ≤ j' ∧ j' < i
      · rw [if_pos e3, if_pos (by omega)]
      · rw [if_neg e3, if_neg (by omega)]
  · rw [if_neg e, if_neg e]
theorem bit_b (a : Nat) : 0 ≤ iand (a : Int) 1 ∧ iand (a : Int) 1 ≤ 1 := by
  unfold iand
  have e : (1 : Int).toNat = 1 := rfl
  rw [Int.toNat_natCast, e, Nat.and_one_is_mod]
  omega
set_option maxHeartbeats 4000000 in
theorem l_X7_passOn (hw : w = 1 ∨ w = 8) : ∀ (k i : Nat) (d s : Int) (τ : jS), i + k = nM (vC σ w) → d = i → s = starvM (vC σ w) → τ = jset σ (w + 4) (passN (vC σ w) i) → J P 5 (RX7, cX7_passOn, 3, none) 7 [some (vr P w), some (vi s), some (vi d)] [] τ (rV (jset σ (w + 4) (passN (vC σ w) (nM (vC σ w))))) := by
  intro k
  induction k with
  | zero =>
    intro i d s τ hi hd hs hτ
    refine J.bd (fun hB => ?_)
    have hn : nM (vC σ w) ≤ 6 ∧ τ w 1 = (nM (vC σ w) : Nat) := by
      have e : vC τ w 0 1 = vC σ w 0 1 := by rw [hτ]; simp [vC, jset]
      have h := vC_n hB hw
      have e3 : nM (vC τ w) = nM (vC σ w) := by unfold nM; rw [e]
      rw [e3] at h
      omega
    rcases hw with rfl | rfl <;> (
      refine J_iload_n (i := 2) 8 dX7_passOn_7 rfl rfl rfl ?_
      refine J_aload_n (i := 0) 9 dX7_passOn_8 rfl rfl rfl ?_
      refine J_getI (jz := 1) (lo := 0) (hi := 6) 12 dX7_passOn_9 rfl fX7_15 rfl rfl rfl rfl (fun b1 b2 => ?_)
      refine J_icmp_ge 79 15 dX7_passOn_12 rfl rfl (fun c3 => ?_) (fun c3 => ?_)
      · refine J_vret dX7_passOn_79 rfl ?_
        show _ = _
        rw [hτ]
        rw [Nat.add_zero] at hi
        rw [hi]
      · exfalso; omega
    )
  | succ k ih =>
    intro i d s τ hi hd hs hτ
    refine J.bd (fun hB => ?_)
    have hn : nM (vC σ w) ≤ 6 ∧ τ w 1 = (nM (vC σ w) : Nat) := by
      have e : vC τ w 0 1 = vC σ w 0 1 := by rw [hτ]; simp [vC, jset]
      have h := vC_n hB hw
      have e3 : nM (vC τ w) = nM (vC σ w) := by unfold nM; rw [e]
      rw [e3] at h
      omega
    have e4 : τ (w + 3) d = vC σ w 3 i ∧ τ (w + 4) d = vC σ w 4 i := by
      rw [hτ, hd]
      exact ⟨by simp [jset, vC], by simp [jset, passN, vC]⟩
    have hsb : 0 ≤ s ∧ s ≤ 63 := by rw [hs]; exact setN_64 _ hn.1
    have hdv := sh_b (a := s.toNat) d (by omega)
    have hbb := bit_b (s.toNat / 2 ^ d.toNat)
    have hbit : iand ((s.toNat / 2 ^ d.toNat : Nat) : Int) 1 = if outM (vC σ w) i = true then 1 else 0 := by
      rw [hs, hd, Int.toNat_natCast]
      exact setN_bit _ (by omega)
    have hpf : passF (vC σ w) i = if outM (vC σ w) i = true then (if vC σ w 4 i + 1 < 9 then vC σ w 4 i + 1 else 9) else if 0 < vC σ w 3 i then (if 0 < vC σ w 4 i - 1 then vC σ w 4 i - 1 else 0) else vC σ w 4 i := rfl
    rw [← e4.1, ← e4.2] at hpf
    have hA : iand ((s.toNat / 2 ^ d.toNat : Nat) : Int) 1 = 1 → jup τ (w + 4) d (if τ (w + 4) d + 1 < 9 then τ (w + 4) d + 1 else 9) = jset σ (w + 4) (passN (vC σ w) (i + 1)) := by
      intro h
      rw [hbit] at h
      have ho : outM (vC σ w) i = true := by
        by_cases q : outM (vC σ w) i = true
        · exact q
        · rw [if_neg q] at h; cases h
      rw [if_pos ho] at hpf
      rw [← hpf, hτ, hd]
      exact pass_up rfl
    have hBq : ¬ iand ((s.toNat / 2 ^ d.toNat : Nat) : Int) 1 = 1 → 0 < τ (w + 3) d → jup τ (w + 4) d (if 0 < τ (w + 4) d - 1 then τ (w + 4) d - 1 else 0) = jset σ (w + 4) (passN (vC σ w) (i + 1)) := by
      intro h h2
      rw [hbit] at h
      have ho : ¬ outM (vC σ w) i = true := fun q => by rw [if_pos q] at h; exact h rfl
      rw [if_neg ho, if_pos h2] at hpf
      rw [← hpf, hτ, hd]
      exact pass_up rfl
    have hCq : ¬ iand ((s.toNat / 2 ^ d.toNat : Nat) : Int) 1 = 1 → ¬ 0 < τ (w + 3) d → τ = jset σ (w + 4) (passN (vC σ w) (i + 1)) := by
      intro h h2
      rw [hbit] at h
      have ho : ¬ outM (vC σ w) i = true := fun q => by rw [if_pos q] at h; exact h rfl
      rw [if_neg ho, if_neg h2] at hpf
      rw [hτ]
      exact pass_no (by rw [hpf, e4.2])
    rcases hw with rfl | rfl <;> (
      simp only [Nat.reduceAdd] at hA hBq hCq
      refine J_iload_n (i := 2) 8 dX7_passOn_7 rfl rfl rfl ?_
      refine J_aload_n (i := 0) 9 dX7_passOn_8 rfl rfl rfl ?_
      refine J_getI (jz := 1) (lo := 0) (hi := 6) 12 dX7_passOn_9 rfl fX7_15 rfl rfl rfl rfl (fun b1 b2 => ?_)
      refine J_icmp_ge 79 15 dX7_passOn_12 rfl rfl (fun c3 => ?_) (fun c3 => ?_)
      · exfalso; omega
      · refine J_iload_n (i := 1) 16 dX7_passOn_15 rfl rfl rfl ?_
        refine J_iload_n (i := 2) 17 dX7_passOn_16 rfl rfl rfl ?_
        refine J_ishr 18 dX7_passOn_17 rfl ?_
        refine J_iconst 19 dX7_passOn_18 rfl ?_
        refine J_iand 20 dX7_passOn_19 rfl ?_
        refine J_iconst 21 dX7_passOn_20 rfl ?_
        refine J_icmp_ne 46 24 dX7_passOn_21 rfl rfl (fun c4 => ?_) (fun c4 => ?_)
        · refine J_aload_n (i := 0) 47 dX7_passOn_46 rfl rfl rfl ?_
          refine J_getR 50 dX7_passOn_47 rfl fX7_31 rfl rfl ?_
          refine J_iload_n (i := 2) 51 dX7_passOn_50 rfl rfl rfl ?_
          refine J_iald (N := 6) (lo := 0) (hi := 9) 52 dX7_passOn_51 rfl rfl rfl rfl (fun b5 b6 => ?_)
          refine J_if_le 73 55 dX7_passOn_52 rfl rfl (fun c7 => ?_) (fun c7 => ?_)
          · refine J_iinc 76 dX7_passOn_73 rfl (by decide) rfl ?_
            refine J_goto 7 dX7_passOn_76 rfl ?_
            refine ih (i + 1) _ _ _ (by omega) (by omega) hs ?_
            first | exact hA (by omega) | exact hBq (by omega) (by omega) | exact hCq (by omega) (by omega)
          · refine J_aload_n (i := 0) 56 dX7_passOn_55 rfl rfl rfl ?_
            refine J_getR 59 dX7_passOn_56 rfl fX7_34 rfl rfl ?_
            refine J_iload_n (i := 2) 60 dX7_passOn_59 rfl rfl rfl ?_
            refine J_iconst 61 dX7_passOn_60 rfl ?_
            refine J_aload_n (i := 0) 62 dX7_passOn_61 rfl rfl rfl ?_
            refine J_getR 65 dX7_passOn_62 rfl fX7_34 rfl rfl ?_
            refine J_iload_n (i := 2) 66 dX7_passOn_65 rfl rfl rfl ?_
            refine J_iald (N := 6) (lo := 0) (hi := 9) 67 dX7_passOn_66 rfl rfl rfl rfl (fun b8 b9 => ?_)
            refine J_iconst 68 dX7_passOn_67 rfl ?_
            refine J_isub 69 dX7_passOn_68 rfl ?_
            refine J_mmax 72 dX7_passOn_69 rfl kX7_62 (by decide) (Nat.le_of_ble_eq_true rfl) ?_
            refine J_iast (N := 6) (lo := 0) (hi := 9) 73 dX7_passOn_72 rfl rfl rfl rfl ?_
            refine J_iinc 76 dX7_passOn_73 rfl (by decide) rfl ?_
            refine J_goto 7 dX7_passOn_76 rfl ?_
            refine ih (i + 1) _ _ _ (by omega) (by omega) hs ?_
            first | exact hA (by omega) | exact hBq (by omega) (by omega) | exact hCq (by omega) (by omega)
        · refine J_aload_n (i := 0) 25 dX7_passOn_24 rfl rfl rfl ?_
          refine J_getR 28 dX7_passOn_25 rfl fX7_34 rfl rfl ?_
          refine J_iload_n (i := 2) 29 dX7_passOn_28 rfl rfl rfl ?_
          refine J_bipush 31 dX7_passOn_29 rfl (by decide) ?_
          refine J_aload_n (i := 0) 32 dX7_passOn_31 rfl rfl rfl ?_
          refine J_getR 35 dX7_passOn_32 rfl fX7_34 rfl rfl ?_
          refine J_iload_n (i := 2) 36 dX7_passOn_35 rfl rfl rfl ?_
          refine J_iald (N := 6) (lo := 0) (hi := 9) 37 dX7_passOn_36 rfl rfl rfl rfl (fun b10 b11 => ?_)
          refine J_iconst 38 dX7_passOn_37 rfl ?_
          refine J_iadd 39 dX7_passOn_38 rfl ?_
          refine J_mmin 42 dX7_passOn_39 rfl kX7_56 (by decide) (Nat.le_of_ble_eq_true rfl) ?_
          refine J_iast (N := 6) (lo := 0) (hi := 9) 43 dX7_passOn_42 rfl rfl rfl rfl ?_
          refine J_goto 73 dX7_passOn_43 rfl ?_
          refine J_iinc 76 dX7_passOn_73 rfl (by decide) rfl ?_
          refine J_goto 7 dX7_passOn_76 rfl ?_
          refine ih (i + 1) _ _ _ (by omega) (by omega) hs ?_
          first | exact hA (by omega) | exact hBq (by omega) (by omega) | exact hCq (by omega) (by omega)
    )
theorem c_X7_passOn (hw : w = 1 ∨ w = 8 := by omega) : Ct P 5 yX7_passOn cX7_passOn 3 none [vr P w] σ (rV (jset σ (w + 4) (passN (vC σ w) (nM (vC σ w))))) := by
  have hw' := hw
  have h0 : σ = jset σ (w + 4) (passN (vC σ w) 0) := by
    funext k j
    unfold jset passN
    split
    · rename_i h; rw [if_neg (by omega), h]; simp [vC]
    · rfl
  rcases hw with rfl | rfl <;> (
    refine Ct.of _ rfl rfl rfl (Nat.le_of_ble_eq_true rfl) (fun hB => ?_)
    refine J_aload_n (i := 0) 1 dX7_passOn_0 rfl rfl rfl ?_
    refine J_callVi 4 dX7_passOn_1 rfl kX7_68 mX7_starving rfl rfl rfl (c_X7_starving) (by decide) rfl rfl (Nat.le_of_ble_eq_true rfl) (fun z2 s3 h1 => ?_)
    obtain ⟨rfl, rfl⟩ := h1
    refine J_istore_n (i := 1) 5 dX7_passOn_4 rfl rfl (by decide) ?_
    refine J_iconst 6 dX7_passOn_5 rfl ?_
    refine J_istore_n (i := 2) 7 dX7_passOn_6 rfl rfl (by decide) ?_
    exact l_X7_passOn hw' _ 0 _ _ _ (Nat.zero_add _) rfl rfl h0
  )
end

