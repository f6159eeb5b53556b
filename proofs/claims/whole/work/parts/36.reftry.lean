/-! ===== the reference: what is tried and put back ===== -/
theorem vR_up0 (σ : jS) (j z : Int) (h : 0 ≤ j ∧ j ≤ 3) : vR (jup σ 36 (j + 1) z) = jup (vR σ) 0 j z := by
  funext i j'
  simp only [vR, jup]
  by_cases e : i = 0
  · subst e
    by_cases e2 : j' = j
    · subst e2; simp [h]
    · have e3 : ¬ j' + 1 = j + 1 := by omega
      simp [e2, e3]
  · have e2 : ¬ 36 + i = 36 := by omega
    simp [e]
theorem vR_up (σ : jS) (i : Nat) (j z : Int) (h : 1 ≤ i ∧ i ≤ 6) : vR (jup σ (36 + i) j z) = jup (vR σ) i j z := by
  funext i' j'
  simp only [vR, jup]
  by_cases e : i' = i
  · subst e
    have e2 : ¬ i' = 0 := by omega
    simp [e2, h.2]
  · by_cases e0 : i' = 0
    · subst e0
      have e3 : ¬ 36 = 36 + i := by omega
      have e4 : ¬ i = 0 := by omega
      simp [e4, e]
    · have e3 : ¬ 36 + i' = 36 + i := by omega
      simp [e, e0]
theorem G3_up {σ τ : jS} (h : G3 σ τ) (K : Nat) (J x : Int) : G3 (jup σ K J x) (jup τ K J x) := by
  intro q h1 h2 h3
  funext j
  unfold jup
  rw [h q h1 h2 h3]
theorem G3_trans {σ τ ρ : jS} (h : G3 σ τ) (h2 : G3 τ ρ) : G3 σ ρ := fun q a b c => (h2 q a b c).trans (h q a b c)
theorem jup_self (σ : jS) (K : Nat) (J : Int) : jup σ K J (σ K J) = σ := by
  funext k j
  unfold jup
  by_cases e : k = K
  · by_cases e2 : j = J
    · rw [if_pos e, if_pos e2, e, e2]
    · rw [if_pos e, if_neg e2]
  · rw [if_neg e]
def HR (σ τ : jS) (K : Nat) (J : Int) : Prop := ∀ x, G3 (jup σ K J x) (jup τ K J x)
theorem HR_next {σ τ τ2 : jS} {K : Nat} {J d : Int} (h : HR σ τ K J) (h2 : G3 (jup τ K J d) τ2) : HR σ τ2 K J := by
  intro x
  have h3 := G3_up h2 K J x
  rw [jup_jup] at h3
  exact G3_trans (h x) h3
theorem HR_0 (σ : jS) (K : Nat) (J : Int) : HR σ σ K J := fun _ _ _ _ _ => rfl
theorem HR_end {σ τ : jS} {K : Nat} {J : Int} (h : HR σ τ K J) : G3 σ (jup τ K J (σ K J)) := by
  have h2 := h (σ K J)
  rw [jup_self] at h2
  exact h2
theorem okG_of {σ τ : jS} (h : okG σ) (h1 : τ 36 1 = σ 36 1) (h2 : τ 36 2 = σ 36 2) (h3 : τ 41 = σ 41) : okG τ := by
  intro c a b
  rw [h1, h3]
  rw [h2] at b
  exact h c a b
section
variable {P : jP} {w o : Nat} {a b c d g x y z n s i j k l : Int} {σ τ v : jS}
theorem c_X9_eats (hok : okG σ) (hc : 0 ≤ c ∧ c < σ 36 2) : Ct P 5 yX9_eats cX9_eats 2 (some .int) [vr P 36, vi c] σ (qi fun z σ' => eatsM (vR σ) c = z ∧ G3 σ σ') := by
  refine Ct.bd (fun hB => ?_)
  have hn : 0 ≤ σ 36 2 ∧ σ 36 2 ≤ 6 := hB 36 2
  refine Ct.of _ rfl rfl rfl (Nat.le_of_ble_eq_true rfl) (fun hB => ?_)
  refine J_aload_n (i := 0) 1 dX9_eats_0 rfl rfl rfl ?_
  refine J_callVv 4 dX9_eats_1 rfl kX9_183 mX9_gives rfl rfl rfl (c_X9_gives hok) (by first | decide | omega) rfl rfl (Nat.le_of_ble_eq_true rfl) (fun s3 h1 => ?_)
  have hG := h1
  refine J_aload_n (i := 0) 5 dX9_eats_4 rfl rfl rfl ?_
  refine J_getR 8 dX9_eats_5 rfl fX9_49 rfl rfl ?_
  refine J_iload_n (i := 1) 9 dX9_eats_8 rfl rfl rfl ?_
  refine J_iald (N := 6) (lo := 0) (hi := 9) 10 dX9_eats_9 rfl rfl rfl rfl (fun b4 b5 => ?_)
  refine J_iret dX9_eats_10 rfl ?_
  exact ⟨(hG.2.1 c hc.1 hc.2).1.symm, hG.1⟩
theorem c_X9_manyWithout (hok : okG σ) : Ct P 5 yX9_manyWithout cX9_manyWithout 1 (some .int) [vr P 36] σ (qi fun z σ' => popM (starvM (vR σ)) = z ∧ G3 σ σ') := by
  refine Ct.bd (fun hB => ?_)
  have hsb := starvM_b (vR_B hB)
  refine Ct.of _ rfl rfl rfl (Nat.le_of_ble_eq_true rfl) (fun hB => ?_)
  refine J_aload_n (i := 0) 1 dX9_manyWithout_0 rfl rfl rfl ?_
  refine J_callVv 4 dX9_manyWithout_1 rfl kX9_183 mX9_gives rfl rfl rfl (c_X9_gives hok) (by first | decide | omega) rfl rfl (Nat.le_of_ble_eq_true rfl) (fun s3 h1 => ?_)
  have hG := h1
  refine J_aload_n (i := 0) 5 dX9_manyWithout_4 rfl rfl rfl ?_
  refine J_callVi 8 dX9_manyWithout_5 rfl kX9_192 mX9_whoGoWithout rfl rfl rfl (c_X9_whoGoWithout) (by first | decide | omega) rfl rfl (Nat.le_of_ble_eq_true rfl) (fun z5 s6 h4 => ?_)
  obtain ⟨rfl, rfl⟩ := h4
  rw [who_eq hB hG]
  refine J_callSi 11 dX9_manyWithout_8 rfl kX9_257 mX9_bits (c_X9_bits) (by first | decide | omega) rfl rfl (Nat.le_of_ble_eq_true rfl) (fun z8 s9 h7 => ?_)
  obtain ⟨rfl, rfl⟩ := h7
  refine J_iret dX9_manyWithout_11 rfl ?_
  exact ⟨rfl, hG.1⟩
theorem c_X9_withoutBy (hok : okG σ) (hx : 0 ≤ x ∧ x ≤ 2 := by omega) : Ct P 6 yX9_withoutBy cX9_withoutBy 4 (some .int) [vr P 36, vi x] σ (qi fun z σ' => manC (vR σ) x = z ∧ G3 σ σ') := by
  have e1 : vR (jup σ 36 3 x) = jup (vR σ) 0 2 x := vR_up0 σ 2 x (by omega)
  refine Ct.of _ rfl rfl rfl (Nat.le_of_ble_eq_true rfl) (fun hB => ?_)
  refine J_aload_n (i := 0) 1 dX9_withoutBy_0 rfl rfl rfl ?_
  refine J_getI (jz := 3) (lo := 0) (hi := 2) 4 dX9_withoutBy_1 rfl fX9_162 rfl rfl rfl rfl (fun b1 b2 => ?_)
  refine J_istore_n (i := 2) 5 dX9_withoutBy_4 rfl rfl (by decide) ?_
  refine J_aload_n (i := 0) 6 dX9_withoutBy_5 rfl rfl rfl ?_
  refine J_iload_n (i := 1) 7 dX9_withoutBy_6 rfl rfl rfl ?_
  refine J_putI (jz := 3) (lo := 0) (hi := 2) 10 dX9_withoutBy_7 rfl gX9_162 rfl rfl rfl rfl ?_
  refine J_aload_n (i := 0) 11 dX9_withoutBy_10 rfl rfl rfl ?_
  refine J_callVi 14 dX9_withoutBy_11 rfl kX9_260 mX9_manyWithout rfl rfl rfl (c_X9_manyWithout (okG_of hok rfl rfl rfl)) (by first | decide | omega) rfl rfl (Nat.le_of_ble_eq_true rfl) (fun z4 s5 h3 => ?_)
  obtain ⟨rfl, f1⟩ := h3
  rw [e1]
  refine J_istore_n (i := 3) 15 dX9_withoutBy_14 rfl rfl (by decide) ?_
  refine J_aload_n (i := 0) 16 dX9_withoutBy_15 rfl rfl rfl ?_
  refine J_iload_n (i := 2) 17 dX9_withoutBy_16 rfl rfl rfl ?_
  refine J_putI (jz := 3) (lo := 0) (hi := 2) 20 dX9_withoutBy_17 rfl gX9_162 rfl rfl rfl rfl ?_
  refine J_iload_n (i := 3) 21 dX9_withoutBy_20 rfl rfl rfl ?_
  refine J_iret dX9_withoutBy_21 rfl ?_
  exact ⟨rfl, HR_end (HR_next (HR_0 σ 36 3) f1)⟩
theorem okG_G3 {σ τ : jS} (h : okG σ) (hG : G3 σ τ) : okG τ := okG_of h (by rw [hG 36 (by omega) (by omega) (by omega)]) (by rw [hG 36 (by omega) (by omega) (by omega)]) (hG 41 (by omega) (by omega) (by omega))
set_option maxHeartbeats 4000000 in
theorem l_X9_without (hok : okG σ) (hvB : wvB (vR σ)) (hx : 0 ≤ x ∧ x ≤ 4) (hn : 0 < σ 36 2) : ∀ (k i : Nat) (d lo : Int) (τ : jS), i + k = 2 → d = (i : Int) + 1 → lo = argm (manC (vR σ)) i → G3 σ τ → J P 7 (RX9, cX9_without, 4, some .int) 29 [some (vr P 36), some (vi x), some (vi lo), some (vi d)] [] τ (qi fun z σ' => aWithout (σ 36 2) (vR σ) x = z ∧ G3 σ σ') := by
  intro k
  induction k with
  | zero =>
    intro i d lo τ hi hd hl hF
    have hab := argm_b (manC (vR σ)) i
    have hlo : lo = argm (manC (vR σ)) 2 := by rw [Nat.add_zero] at hi; rw [hl, hi]
    refine J_iload_n (i := 3) 30 dX9_without_29 rfl rfl rfl ?_
    refine J_iconst 31 dX9_without_30 rfl ?_
    refine J_icmp_ge 59 34 dX9_without_31 rfl rfl (fun c1 => ?_) (fun c1 => ?_)
    · refine J_iload_n (i := 1) 60 dX9_without_59 rfl rfl rfl ?_
      refine J_iconst 61 dX9_without_60 rfl ?_
      refine J_icmp_ge 72 64 dX9_without_61 rfl rfl (fun c2 => ?_) (fun c2 => ?_)
      · refine J_iload_n (i := 1) 73 dX9_without_72 rfl rfl rfl ?_
        refine J_iconst 74 dX9_without_73 rfl ?_
        refine J_icmp_ne 85 77 dX9_without_74 rfl rfl (fun c3 => ?_) (fun c3 => ?_)
        · refine J_iload_n (i := 2) 86 dX9_without_85 rfl rfl rfl ?_
          refine J_iret dX9_without_86 rfl ?_
          first
            | (refine ⟨?_, f2⟩; unfold aWithout; rw [if_neg (by omega), if_neg (by omega), if_pos (by omega)]; done)
            | (refine ⟨?_, f2⟩; unfold aWithout; rw [if_neg (by omega), if_neg (by omega), if_neg (by omega), if_pos (by omega), hlo]; done)
            | (refine ⟨?_, hF⟩; unfold aWithout; rw [if_neg (by omega), if_neg (by omega), if_neg (by omega), if_neg (by omega), hlo]; done)
        · refine J_aload_n (i := 0) 78 dX9_without_77 rfl rfl rfl ?_
          refine J_iload_n (i := 2) 79 dX9_without_78 rfl rfl rfl ?_
          refine J_callVi 82 dX9_without_79 rfl kX9_263 mX9_withoutBy rfl rfl rfl (c_X9_withoutBy (okG_G3 hok hF)) (by first | decide | omega) rfl rfl (Nat.le_of_ble_eq_true rfl) (fun z5 s6 h4 => ?_)
          obtain ⟨rfl, f1⟩ := h4
          rw [vR_G3 hF]
          have f2 := G3_trans hF f1
          refine J_goto 86 dX9_without_82 rfl ?_
          refine J_iret dX9_without_86 rfl ?_
          first
            | (refine ⟨?_, f2⟩; unfold aWithout; rw [if_neg (by omega), if_neg (by omega), if_pos (by omega)]; done)
            | (refine ⟨?_, f2⟩; unfold aWithout; rw [if_neg (by omega), if_neg (by omega), if_neg (by omega), if_pos (by omega), hlo]; done)
            | (refine ⟨?_, hF⟩; unfold aWithout; rw [if_neg (by omega), if_neg (by omega), if_neg (by omega), if_neg (by omega), hlo]; done)
      · refine J_aload_n (i := 0) 65 dX9_without_64 rfl rfl rfl ?_
        refine J_iload_n (i := 1) 66 dX9_without_65 rfl rfl rfl ?_
        refine J_callVi 69 dX9_without_66 rfl kX9_263 mX9_withoutBy rfl rfl rfl (c_X9_withoutBy (okG_G3 hok hF)) (by first | decide | omega) rfl rfl (Nat.le_of_ble_eq_true rfl) (fun z8 s9 h7 => ?_)
        obtain ⟨rfl, f1⟩ := h7
        rw [vR_G3 hF]
        have f2 := G3_trans hF f1
        refine J_goto 86 dX9_without_69 rfl ?_
        refine J_iret dX9_without_86 rfl ?_
        first
          | (refine ⟨?_, f2⟩; unfold aWithout; rw [if_neg (by omega), if_neg (by omega), if_pos (by omega)]; done)
          | (refine ⟨?_, f2⟩; unfold aWithout; rw [if_neg (by omega), if_neg (by omega), if_neg (by omega), if_pos (by omega), hlo]; done)
          | (refine ⟨?_, hF⟩; unfold aWithout; rw [if_neg (by omega), if_neg (by omega), if_neg (by omega), if_neg (by omega), hlo]; done)
    · exfalso; omega
  | succ k ih =>
    intro i d lo τ hi hd hl hF
    have hab := argm_b (manC (vR σ)) i
    have hmb := manC_b hvB (m := d) (by omega)
    have hfb := manC_b hvB (m := lo) (by omega)
    have hst : argm (manC (vR σ)) (i + 1) = if manC (vR σ) d < manC (vR σ) lo then d else lo := by
      show (if _ < _ then _ else _) = _
      rw [hl, hd]
    refine J_iload_n (i := 3) 30 dX9_without_29 rfl rfl rfl ?_
    refine J_iconst 31 dX9_without_30 rfl ?_
    refine J_icmp_ge 59 34 dX9_without_31 rfl rfl (fun c1 => ?_) (fun c1 => ?_)
    · exfalso; omega
    · refine J_aload_n (i := 0) 35 dX9_without_34 rfl rfl rfl ?_
      refine J_iload_n (i := 3) 36 dX9_without_35 rfl rfl rfl ?_
      refine J_callVi 39 dX9_without_36 rfl kX9_263 mX9_withoutBy rfl rfl rfl (c_X9_withoutBy (okG_G3 hok hF)) (by first | decide | omega) rfl rfl (Nat.le_of_ble_eq_true rfl) (fun z3 s4 h2 => ?_)
      obtain ⟨rfl, f1⟩ := h2
      rw [vR_G3 hF]
      have f2 := G3_trans hF f1
      refine J_aload_n (i := 0) 40 dX9_without_39 rfl rfl rfl ?_
      refine J_iload_n (i := 2) 41 dX9_without_40 rfl rfl rfl ?_
      refine J_callVi 44 dX9_without_41 rfl kX9_263 mX9_withoutBy rfl rfl rfl (c_X9_withoutBy (okG_G3 hok f2)) (by first | decide | omega) rfl rfl (Nat.le_of_ble_eq_true rfl) (fun z6 s7 h5 => ?_)
      obtain ⟨rfl, f3⟩ := h5
      rw [vR_G3 f2]
      have f4 := G3_trans f2 f3
      refine J_icmp_ge 51 47 dX9_without_44 rfl rfl (fun c8 => ?_) (fun c8 => ?_)
      · refine J_iload_n (i := 2) 52 dX9_without_51 rfl rfl rfl ?_
        refine J_istore_n (i := 2) 53 dX9_without_52 rfl rfl (by decide) ?_
        refine J_iinc 56 dX9_without_53 rfl (by decide) rfl ?_
        refine J_goto 29 dX9_without_56 rfl ?_
        first
          | (rw [if_pos (by omega)] at hst; exact ih (i + 1) _ _ _ (by omega) (by omega) hst.symm f4)
          | (rw [if_neg (by omega)] at hst; exact ih (i + 1) (d + 1) lo _ (by omega) (by omega) hst.symm f4)
      · refine J_iload_n (i := 3) 48 dX9_without_47 rfl rfl rfl ?_
        refine J_goto 52 dX9_without_48 rfl ?_
        refine J_istore_n (i := 2) 53 dX9_without_52 rfl rfl (by decide) ?_
        refine J_iinc 56 dX9_without_53 rfl (by decide) rfl ?_
        refine J_goto 29 dX9_without_56 rfl ?_
        first
          | (rw [if_pos (by omega)] at hst; exact ih (i + 1) _ _ _ (by omega) (by omega) hst.symm f4)
          | (rw [if_neg (by omega)] at hst; exact ih (i + 1) (d + 1) lo _ (by omega) (by omega) hst.symm f4)
theorem c_X9_without (hok : okG σ) (hx : inR x) : Ct P 7 yX9_without cX9_without 4 (some .int) [vr P 36, vi x] σ (qi fun z σ' => aWithout (σ 36 2) (vR σ) x = z ∧ G3 σ σ') := by
  refine Ct.bd (fun hB => ?_)
  have hvB := vR_B hB
  refine Ct.of _ rfl rfl rfl (Nat.le_of_ble_eq_true rfl) (fun hB => ?_)
  refine J_iload_n (i := 1) 1 dX9_without_0 rfl rfl rfl ?_
  refine J_i2l 2 dX9_without_1 rfl ?_
  refine J_lconst (z := 0) 3 dX9_without_2 rfl rfl ?_
  refine J_ldc2 6 dX9_without_3 rfl cstX9_231 ?_
  refine J_callSi 9 dX9_without_6 rfl kX9_107 mX9_in (c_X9_in) (by first | decide | omega) rfl rfl (Nat.le_of_ble_eq_true rfl) (fun z2 s3 h1 => ?_)
  obtain ⟨rfl, rfl⟩ := h1
  refine J_bif_ne 15 12 dX9_without_9 rfl rfl (fun c4 => ?_) (fun c4 => ?_)
  · refine J_aload_n (i := 0) 16 dX9_without_15 rfl rfl rfl ?_
    refine J_getI (jz := 2) (lo := 0) (hi := 6) 19 dX9_without_16 rfl fX9_104 rfl rfl rfl rfl (fun b5 b6 => ?_)
    refine J_if_ne 25 22 dX9_without_19 rfl rfl (fun c7 => ?_) (fun c7 => ?_)
    · refine J_iconst 26 dX9_without_25 rfl ?_
      refine J_istore_n (i := 2) 27 dX9_without_26 rfl rfl (by decide) ?_
      refine J_iconst 28 dX9_without_27 rfl ?_
      refine J_istore_n (i := 3) 29 dX9_without_28 rfl rfl (by decide) ?_
      exact l_X9_without hok hvB (by omega) (by omega) 2 0 _ _ _ rfl rfl rfl (fun _ _ _ _ => rfl)
    · refine J_bipush 24 dX9_without_22 rfl (by decide) ?_
      refine J_iret dX9_without_24 rfl ?_
      refine ⟨?_, fun _ _ _ _ => rfl⟩
      unfold aWithout
      first | rfl | (rw [if_pos (by omega)]; first | done | rfl) | (rw [if_neg (by omega)]; first | done | rfl) | (rw [if_neg (by omega), if_pos (by omega)]; first | done | rfl) | (rw [if_neg (by omega), if_neg (by omega)]; first | done | rfl) | (rw [if_neg (by omega), if_neg (by omega), if_pos (by omega)]; first | done | rfl) | (rw [if_neg (by omega), if_neg (by omega), if_neg (by omega)]; first | done | rfl) | (rw [if_neg (by omega), if_neg (by omega), if_neg (by omega), if_pos (by omega)]; first | done | rfl) | (rw [if_neg (by omega), if_neg (by omega), if_neg (by omega), if_neg (by omega)]; first | done | rfl) | (rw [if_neg (by omega), if_neg (by omega), if_neg (by omega), if_neg (by omega), if_pos (by omega)]; first | done | rfl) | (rw [if_neg (by omega), if_neg (by omega), if_neg (by omega), if_neg (by omega), if_neg (by omega)]; first | done | rfl)
  · refine J_bipush 14 dX9_without_12 rfl (by decide) ?_
    refine J_iret dX9_without_14 rfl ?_
    refine ⟨?_, fun _ _ _ _ => rfl⟩
    unfold aWithout
    first | rfl | (rw [if_pos (by omega)]; first | done | rfl) | (rw [if_neg (by omega)]; first | done | rfl) | (rw [if_neg (by omega), if_pos (by omega)]; first | done | rfl) | (rw [if_neg (by omega), if_neg (by omega)]; first | done | rfl) | (rw [if_neg (by omega), if_neg (by omega), if_pos (by omega)]; first | done | rfl) | (rw [if_neg (by omega), if_neg (by omega), if_neg (by omega)]; first | done | rfl) | (rw [if_neg (by omega), if_neg (by omega), if_neg (by omega), if_pos (by omega)]; first | done | rfl) | (rw [if_neg (by omega), if_neg (by omega), if_neg (by omega), if_neg (by omega)]; first | done | rfl) | (rw [if_neg (by omega), if_neg (by omega), if_neg (by omega), if_neg (by omega), if_pos (by omega)]; first | done | rfl) | (rw [if_neg (by omega), if_neg (by omega), if_neg (by omega), if_neg (by omega), if_neg (by omega)]; first | done | rfl)
set_option maxHeartbeats 4000000 in
theorem l_X9_gain {was had : Int} (hok : okG σ) (hc : 0 ≤ c ∧ c < σ 36 2) (hn6 : σ 36 2 ≤ 6) (hw : was = σ 40 c) (hwb : 0 ≤ was ∧ was ≤ 9) (hh : had = eatsM (vR σ) c) (hvB : wvB (vR σ)) : ∀ (k : Nat) (d le : Int) (τ : jS), d = was + k → d ≤ 9 → le = findUp (fun x => decide (eatsM (vR σ) c < eatsM (jup (vR σ) 4 c x) c)) (9 - d).toNat (d + 1) → -9 ≤ le ∧ le ≤ 9 → HR σ τ 40 c → J P 6 (RX9, cX9_gain, 6, some .int) 31 [some (vr P 36), some (vi c), some (vi was), some (vi had), some (vi le), some (vi d)] [] τ (qi fun z σ' => gainM (vR σ) c = z ∧ G3 σ σ') := by
  have heb := eatsM_b hvB c
  intro k
  induction k with
  | zero =>
    intro d le τ hd h9 hl hlb hF
    refine J_iload 33 dX9_gain_31 rfl rfl ?_
    refine J_iload_n (i := 2) 34 dX9_gain_33 rfl rfl rfl ?_
    refine J_icmp_le 69 37 dX9_gain_34 rfl rfl (fun c1 => ?_) (fun c1 => ?_)
    · refine J_aload_n (i := 0) 70 dX9_gain_69 rfl rfl rfl ?_
      refine J_getR 73 dX9_gain_70 rfl fX9_19 rfl rfl ?_
      refine J_iload_n (i := 1) 74 dX9_gain_73 rfl rfl rfl ?_
      refine J_iload_n (i := 2) 75 dX9_gain_74 rfl rfl rfl ?_
      refine J_iast (N := 6) (lo := 0) (hi := 9) 76 dX9_gain_75 rfl rfl rfl rfl ?_
      refine J_iload 78 dX9_gain_76 rfl rfl ?_
      refine J_iret dX9_gain_78 rfl ?_
      refine ⟨?_, ?_⟩
      · rw [hl, show d = σ 40 c by omega]
        rfl
      · rw [hw]
        exact HR_end hF
    · exfalso; omega
  | succ k ih =>
    intro d le τ hd h9 hl hlb hF
    have hb2 := wvB_up hvB (i := 4) (j := c) (z := d) (by omega) (by omega) (by omega) (by omega) (by omega) (by omega) (by omega)
    have heb2 := eatsM_b hb2 c
    have hG1 := hF d
    have e1 : vR (jup τ 40 c d) = jup (vR σ) 4 c d := (vR_G3 hG1).trans (vR_up σ 4 c d (by omega))
    have hok1 : okG (jup τ 40 c d) := okG_G3 (show okG (jup σ _ _ d) from okG_of hok rfl rfl rfl) hG1
    have hn1 : (jup τ 40 c d) 36 2 = σ 36 2 := by rw [hG1 36 (by omega) (by omega) (by omega)]; rfl
    have hst : findUp (fun x => decide (eatsM (vR σ) c < eatsM (jup (vR σ) 4 c x) c)) (9 - (d - 1)).toNat (d - 1 + 1) = if eatsM (vR σ) c < eatsM (jup (vR σ) 4 c d) c then d else le := by
      rw [show (9 - (d - 1)).toNat = (9 - d).toNat + 1 by omega, show d - 1 + 1 = d by omega]
      simp only [findUp]
      rw [← hl]
      by_cases e : eatsM (vR σ) c < eatsM (jup (vR σ) 4 c d) c
      · rw [if_pos e, if_pos (decide_eq_true e)]
      · rw [if_neg e, if_neg (by simp [e])]
    refine J_iload 33 dX9_gain_31 rfl rfl ?_
    refine J_iload_n (i := 2) 34 dX9_gain_33 rfl rfl rfl ?_
    refine J_icmp_le 69 37 dX9_gain_34 rfl rfl (fun c1 => ?_) (fun c1 => ?_)
    · exfalso; omega
    · refine J_aload_n (i := 0) 38 dX9_gain_37 rfl rfl rfl ?_
      refine J_getR 41 dX9_gain_38 rfl fX9_19 rfl rfl ?_
      refine J_iload_n (i := 1) 42 dX9_gain_41 rfl rfl rfl ?_
      refine J_iload 44 dX9_gain_42 rfl rfl ?_
      refine J_iast (N := 6) (lo := 0) (hi := 9) 45 dX9_gain_44 rfl rfl rfl rfl ?_
      refine J_aload_n (i := 0) 46 dX9_gain_45 rfl rfl rfl ?_
      refine J_iload_n (i := 1) 47 dX9_gain_46 rfl rfl rfl ?_
      refine J_callVi 50 dX9_gain_47 rfl kX9_266 mX9_eats rfl rfl rfl (c_X9_eats hok1 (by rw [hn1]; exact hc)) (by first | decide | omega) rfl rfl (Nat.le_of_ble_eq_true rfl) (fun z3 s4 h2 => ?_)
      obtain ⟨rfl, f1⟩ := h2
      rw [e1]
      have hF2 := HR_next hF f1
      refine J_iload_n (i := 3) 51 dX9_gain_50 rfl rfl rfl ?_
      refine J_icmp_le 59 54 dX9_gain_51 rfl rfl (fun c5 => ?_) (fun c5 => ?_)
      · refine J_iload 61 dX9_gain_59 rfl rfl ?_
        refine J_istore 63 dX9_gain_61 rfl (by decide) ?_
        refine J_iinc 66 dX9_gain_63 rfl (by decide) rfl ?_
        refine J_goto 31 dX9_gain_66 rfl ?_
        first
          | (rw [if_pos (by omega)] at hst; exact ih (d - 1) d _ (by omega) (by omega) hst.symm (by omega) hF2)
          | (rw [if_neg (by omega)] at hst; exact ih (d - 1) le _ (by omega) (by omega) hst.symm (by omega) hF2)
      · refine J_iload 56 dX9_gain_54 rfl rfl ?_
        refine J_goto 61 dX9_gain_56 rfl ?_
        refine J_istore 63 dX9_gain_61 rfl (by decide) ?_
        refine J_iinc 66 dX9_gain_63 rfl (by decide) rfl ?_
        refine J_goto 31 dX9_gain_66 rfl ?_
        first
          | (rw [if_pos (by omega)] at hst; exact ih (d - 1) d _ (by omega) (by omega) hst.symm (by omega) hF2)
          | (rw [if_neg (by omega)] at hst; exact ih (d - 1) le _ (by omega) (by omega) hst.symm (by omega) hF2)
theorem c_X9_gain (hok : okG σ) (hc : inR c) : Ct P 6 yX9_gain cX9_gain 6 (some .int) [vr P 36, vi c] σ (qi fun z σ' => (if ¬ (0 ≤ c ∧ c < σ 36 2) then -1 else gainM (vR σ) c) = z ∧ G3 σ σ') := by
  refine Ct.bd (fun hB => ?_)
  have hvB := vR_B hB
  have hn : 0 ≤ σ 36 2 ∧ σ 36 2 ≤ 6 := hB 36 2
  have hs : 0 ≤ σ 40 c ∧ σ 40 c ≤ 9 := hB 40 c
  refine Ct.of _ rfl rfl rfl (Nat.le_of_ble_eq_true rfl) (fun hB => ?_)
  refine J_aload_n (i := 0) 1 dX9_gain_0 rfl rfl rfl ?_
  refine J_iload_n (i := 1) 2 dX9_gain_1 rfl rfl rfl ?_
  refine J_callVi 5 dX9_gain_2 rfl kX9_180 mX9_noComer rfl rfl rfl (c_X9_noComer) (by first | decide | omega) rfl rfl (Nat.le_of_ble_eq_true rfl) (fun z2 s3 h1 => ?_)
  obtain ⟨rfl, rfl⟩ := h1
  refine J_bif_eq 10 8 dX9_gain_5 rfl rfl (fun c4 => ?_) (fun c4 => ?_)
  · refine J_aload_n (i := 0) 11 dX9_gain_10 rfl rfl rfl ?_
    refine J_getR 14 dX9_gain_11 rfl fX9_19 rfl rfl ?_
    refine J_iload_n (i := 1) 15 dX9_gain_14 rfl rfl rfl ?_
    refine J_iald (N := 6) (lo := 0) (hi := 9) 16 dX9_gain_15 rfl rfl rfl rfl (fun b5 b6 => ?_)
    refine J_istore_n (i := 2) 17 dX9_gain_16 rfl rfl (by decide) ?_
    refine J_aload_n (i := 0) 18 dX9_gain_17 rfl rfl rfl ?_
    refine J_iload_n (i := 1) 19 dX9_gain_18 rfl rfl rfl ?_
    refine J_callVi 22 dX9_gain_19 rfl kX9_266 mX9_eats rfl rfl rfl (c_X9_eats hok (by omega)) (by first | decide | omega) rfl rfl (Nat.le_of_ble_eq_true rfl) (fun z8 s9 h7 => ?_)
    obtain ⟨rfl, f1⟩ := h7
    refine J_istore_n (i := 3) 23 dX9_gain_22 rfl rfl (by decide) ?_
    refine J_bipush 25 dX9_gain_23 rfl (by decide) ?_
    refine J_istore 27 dX9_gain_25 rfl (by decide) ?_
    refine J_bipush 29 dX9_gain_27 rfl (by decide) ?_
    refine J_istore 31 dX9_gain_29 rfl (by decide) ?_
    rw [if_neg (by omega)]
    exact l_X9_gain hok (by omega) hn.2 rfl hs rfl hvB (9 - σ 40 c).toNat _ _ _ (by omega) (by omega) rfl (by omega) (fun x => G3_up f1 40 c x)
  · refine J_iconst 9 dX9_gain_8 rfl ?_
    refine J_iret dX9_gain_9 rfl ?_
    exact ⟨if_pos (by omega), fun _ _ _ _ => rfl⟩
set_option maxHeartbeats 4000000 in
theorem l_X9_needs {was : Int} (hok : okG σ) (hc : 0 ≤ c ∧ c < σ 36 2) (hn6 : σ 36 2 ≤ 6) (hw : was = σ 36 4) (hwb : 0 ≤ was ∧ was ≤ 9) (hvB : wvB (vR σ)) : ∀ (k : Nat) (d le : Int) (τ : jS), d = (k : Int) - 1 → d ≤ 9 → le = findUp (fun x => decide (0 < eatsM (jup (vR σ) 0 3 x) c)) (9 - d).toNat (d + 1) → -9 ≤ le ∧ le ≤ 9 → HR σ τ 36 4 → J P 6 (RX9, cX9_needs, 5, some .int) 22 [some (vr P 36), some (vi c), some (vi was), some (vi le), some (vi d)] [] τ (qi fun z σ' => needsM (vR σ) c = z ∧ G3 σ σ') := by
  intro k
  induction k with
  | zero =>
    intro d le τ hd h9 hl hlb hF
    refine J_iload 24 dX9_needs_22 rfl rfl ?_
    refine J_if_lt 54 27 dX9_needs_24 rfl rfl (fun c1 => ?_) (fun c1 => ?_)
    · refine J_aload_n (i := 0) 55 dX9_needs_54 rfl rfl rfl ?_
      refine J_iload_n (i := 2) 56 dX9_needs_55 rfl rfl rfl ?_
      refine J_putI (jz := 4) (lo := 0) (hi := 9) 59 dX9_needs_56 rfl gX9_165 rfl rfl rfl rfl ?_
      refine J_iload_n (i := 3) 60 dX9_needs_59 rfl rfl rfl ?_
      refine J_iret dX9_needs_60 rfl ?_
      refine ⟨?_, ?_⟩
      · rw [hl, show d = -1 by omega]
        rfl
      · rw [hw]
        exact HR_end hF
    · exfalso; omega
  | succ k ih =>
    intro d le τ hd h9 hl hlb hF
    have hb2 := wvB_up hvB (i := 0) (j := 3) (z := d) (fun _ => ⟨by omega, by omega, by omega, by omega⟩) (by omega) (by omega) (by omega) (by omega) (by omega) (by omega)
    have heb2 := eatsM_b hb2 c
    have hG1 := hF d
    have e1 : vR (jup τ 36 4 d) = jup (vR σ) 0 3 d := (vR_G3 hG1).trans (vR_up0 σ 3 d (by omega))
    have hok1 : okG (jup τ 36 4 d) := okG_G3 (show okG (jup σ _ _ d) from okG_of hok rfl rfl rfl) hG1
    have hn1 : (jup τ 36 4 d) 36 2 = σ 36 2 := by rw [hG1 36 (by omega) (by omega) (by omega)]; rfl
    have hst : findUp (fun x => decide (0 < eatsM (jup (vR σ) 0 3 x) c)) (9 - (d - 1)).toNat (d - 1 + 1) = if 0 < eatsM (jup (vR σ) 0 3 d) c then d else le := by
      rw [show (9 - (d - 1)).toNat = (9 - d).toNat + 1 by omega, show d - 1 + 1 = d by omega]
      simp only [findUp]
      rw [← hl]
      by_cases e : 0 < eatsM (jup (vR σ) 0 3 d) c
      · rw [if_pos e, if_pos (decide_eq_true e)]
      · rw [if_neg e, if_neg (by simp [e])]
    refine J_iload 24 dX9_needs_22 rfl rfl ?_
    refine J_if_lt 54 27 dX9_needs_24 rfl rfl (fun c1 => ?_) (fun c1 => ?_)
    · exfalso; omega
    · refine J_aload_n (i := 0) 28 dX9_needs_27 rfl rfl rfl ?_
      refine J_iload 30 dX9_needs_28 rfl rfl ?_
      refine J_putI (jz := 4) (lo := 0) (hi := 9) 33 dX9_needs_30 rfl gX9_165 rfl rfl rfl rfl ?_
      refine J_aload_n (i := 0) 34 dX9_needs_33 rfl rfl rfl ?_
      refine J_iload_n (i := 1) 35 dX9_needs_34 rfl rfl rfl ?_
      refine J_callVi 38 dX9_needs_35 rfl kX9_266 mX9_eats rfl rfl rfl (c_X9_eats hok1 (by rw [hn1]; exact hc)) (by first | decide | omega) rfl rfl (Nat.le_of_ble_eq_true rfl) (fun z3 s4 h2 => ?_)
      obtain ⟨rfl, f1⟩ := h2
      rw [e1]
      have hF2 := HR_next hF f1
      refine J_if_le 46 41 dX9_needs_38 rfl rfl (fun c5 => ?_) (fun c5 => ?_)
      · refine J_iload_n (i := 3) 47 dX9_needs_46 rfl rfl rfl ?_
        refine J_istore_n (i := 3) 48 dX9_needs_47 rfl rfl (by decide) ?_
        refine J_iinc 51 dX9_needs_48 rfl (by decide) rfl ?_
        refine J_goto 22 dX9_needs_51 rfl ?_
        first
          | (rw [if_pos (by omega)] at hst; exact ih (d - 1) d _ (by omega) (by omega) hst.symm (by omega) hF2)
          | (rw [if_neg (by omega)] at hst; exact ih (d - 1) le _ (by omega) (by omega) hst.symm (by omega) hF2)
      · refine J_iload 43 dX9_needs_41 rfl rfl ?_
        refine J_goto 47 dX9_needs_43 rfl ?_
        refine J_istore_n (i := 3) 48 dX9_needs_47 rfl rfl (by decide) ?_
        refine J_iinc 51 dX9_needs_48 rfl (by decide) rfl ?_
        refine J_goto 22 dX9_needs_51 rfl ?_
        first
          | (rw [if_pos (by omega)] at hst; exact ih (d - 1) d _ (by omega) (by omega) hst.symm (by omega) hF2)
          | (rw [if_neg (by omega)] at hst; exact ih (d - 1) le _ (by omega) (by omega) hst.symm (by omega) hF2)
theorem c_X9_needs (hok : okG σ) (hc : inR c) : Ct P 6 yX9_needs cX9_needs 5 (some .int) [vr P 36, vi c] σ (qi fun z σ' => (if ¬ (0 ≤ c ∧ c < σ 36 2) then -1 else needsM (vR σ) c) = z ∧ G3 σ σ') := by
  refine Ct.bd (fun hB => ?_)
  have hvB := vR_B hB
  have hn : 0 ≤ σ 36 2 ∧ σ 36 2 ≤ 6 := hB 36 2
  have hs : 0 ≤ σ 36 4 ∧ σ 36 4 ≤ 9 := hB 36 4
  refine Ct.of _ rfl rfl rfl (Nat.le_of_ble_eq_true rfl) (fun hB => ?_)
  refine J_aload_n (i := 0) 1 dX9_needs_0 rfl rfl rfl ?_
  refine J_iload_n (i := 1) 2 dX9_needs_1 rfl rfl rfl ?_
  refine J_callVi 5 dX9_needs_2 rfl kX9_180 mX9_noComer rfl rfl rfl (c_X9_noComer) (by first | decide | omega) rfl rfl (Nat.le_of_ble_eq_true rfl) (fun z2 s3 h1 => ?_)
  obtain ⟨rfl, rfl⟩ := h1
  refine J_bif_eq 10 8 dX9_needs_5 rfl rfl (fun c4 => ?_) (fun c4 => ?_)
  · refine J_aload_n (i := 0) 11 dX9_needs_10 rfl rfl rfl ?_
    refine J_getI (jz := 4) (lo := 0) (hi := 9) 14 dX9_needs_11 rfl fX9_165 rfl rfl rfl rfl (fun b5 b6 => ?_)
    refine J_istore_n (i := 2) 15 dX9_needs_14 rfl rfl (by decide) ?_
    refine J_bipush 17 dX9_needs_15 rfl (by decide) ?_
    refine J_istore_n (i := 3) 18 dX9_needs_17 rfl rfl (by decide) ?_
    refine J_bipush 20 dX9_needs_18 rfl (by decide) ?_
    refine J_istore 22 dX9_needs_20 rfl (by decide) ?_
    rw [if_neg (by omega)]
    exact l_X9_needs hok (by omega) hn.2 rfl hs hvB 10 9 (-9) _ rfl (by omega) rfl (by omega) (HR_0 σ 36 4)
  · refine J_iconst 9 dX9_needs_8 rfl ?_
    refine J_iret dX9_needs_9 rfl ?_
    exact ⟨if_pos (by omega), fun _ _ _ _ => rfl⟩
end

