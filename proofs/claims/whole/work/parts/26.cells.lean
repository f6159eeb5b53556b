/-! ===== cells, copies, winters by a text ===== -/
theorem faultM_0 {sl len l i n : Int} (h : faultM sl len l i n = 0) : sl = l ∧ ¬ sl = -1 ∧ 0 ≤ i ∧ 0 ≤ n ∧ i + n ≤ len := by
  unfold faultM at h
  by_cases h1 : sl = -1
  · rw [if_pos h1] at h; omega
  · rw [if_neg h1] at h
    by_cases h2 : ¬ sl = l
    · rw [if_pos h2] at h; omega
    · rw [if_neg h2] at h
      by_cases h3 : n < 0
      · rw [if_pos h3] at h; omega
      · rw [if_neg h3] at h
        by_cases h4 : 0 ≤ i ∧ i ≤ len ∧ 0 ≤ n ∧ n ≤ len - i
        · omega
        · rw [if_neg h4] at h; omega
theorem faultM_b (sl len l i n : Int) : 0 ≤ faultM sl len l i n ∧ faultM sl len l i n ≤ 4 := by
  unfold faultM
  split
  · omega
  · split
    · omega
    · split
      · omega
      · split <;> omega
theorem J.guard {P : jP} {dp : Nat} {M : jMt} {pc : Nat} {L : List (Option Value)} {st : List Value} {σ : jS} {Q : Option Value → jS → Prop} (h : ∀ Q', Q = Q' → J P dp M pc L st σ Q') : J P dp M pc L st σ Q := h Q rfl
section
variable {P : jP} {w o : Nat} {a b c d g x y z n s i j k l : Int} {σ τ v : jS}
def aCell (k l f z : Int) : Int := if ¬ ((0 ≤ k ∧ k < 4) ∧ 0 ≤ l ∧ l ≤ 2) then -9223372036854775808 else if f = 0 then z else -9223372036854775808
set_option maxHeartbeats 4000000 in
theorem c_X8_cell (hw : w = sc x) (hx : inR x) (hi : inR i) (hl : inR l) : Ct P 3 yX8_cell cX8_cell 4 (some .long) [vr P 0, vi x, vi i, vi l] σ (rL (aCell x l (faultM (σ w 1) (σ w 2) l i 1) (σ (w + 1) i)) (jup σ 0 10 (if ¬ ((0 ≤ x ∧ x < 4) ∧ 0 ≤ l ∧ l ≤ 2) then 0 else faultM (σ w 1) (σ w 2) l i 1))) := by
  refine Ct.bd (fun hB => ?_)
  unfold aCell
  have hfb := faultM_b (σ w 1) (σ w 2) l i 1
  have hf0 := faultM_0 (sl := σ w 1) (len := σ w 2) (l := l) (i := i) (n := 1)
  by_cases hx4 : 0 ≤ x ∧ x < 4
  · have hlb := len_b hB (w := w) (by unfold sc at hw; omega)
    rcases sc4 hw hx4 with ⟨rfl, rfl⟩ | ⟨rfl, rfl⟩ | ⟨rfl, rfl⟩ | ⟨rfl, rfl⟩ <;> (
      refine Ct.of _ rfl rfl rfl (Nat.le_of_ble_eq_true rfl) (fun hB => ?_)
      refine J.guard (fun Q0 hQ0 => ?_)
      refine J_aload_n (i := 0) 1 dX8_cell_0 rfl rfl rfl ?_
      refine J_iconst 2 dX8_cell_1 rfl ?_
      refine J_putI (jz := 10) (lo := 0) (hi := 4) 5 dX8_cell_2 rfl gX8_74 rfl rfl rfl rfl ?_
      refine J_iload_n (i := 1) 6 dX8_cell_5 rfl rfl rfl ?_
      refine J_callSi 9 dX8_cell_6 rfl kX8_77 mX8_isSheet (c_X8_isSheet) (by first | decide | omega) rfl rfl (Nat.le_of_ble_eq_true rfl) (fun z2 s3 h1 => ?_)
      obtain ⟨rfl, rfl⟩ := h1
      refine J_bif_eq 19 12 dX8_cell_9 rfl rfl (fun c4 => ?_) (fun c4 => ?_)
      · refine J_ldc2 22 dX8_cell_19 rfl cstX8_248 ?_
        subst hQ0
        refine J_lret dX8_cell_22 rfl ?_
        refine ⟨?_, ?_⟩
        · first | rfl | (rw [if_pos (by omega)]; first | done | rfl) | (rw [if_neg (by omega)]; first | done | rfl) | (rw [if_neg (by omega), if_pos (by omega)]; first | done | rfl) | (rw [if_neg (by omega), if_neg (by omega)]; first | done | rfl) | (rw [if_neg (by omega), if_neg (by omega), if_pos (by omega)]; first | done | rfl) | (rw [if_neg (by omega), if_neg (by omega), if_neg (by omega)]; first | done | rfl) | (rw [if_neg (by omega), if_neg (by omega), if_neg (by omega), if_pos (by omega)]; first | done | rfl) | (rw [if_neg (by omega), if_neg (by omega), if_neg (by omega), if_neg (by omega)]; first | done | rfl) | (rw [if_neg (by omega), if_neg (by omega), if_neg (by omega), if_neg (by omega), if_pos (by omega)]; first | done | rfl) | (rw [if_neg (by omega), if_neg (by omega), if_neg (by omega), if_neg (by omega), if_neg (by omega)]; first | done | rfl)
        · first | (rw [if_pos (by omega)]; first | done | rfl) | (rw [if_neg (by omega)]; first | done | rfl)
      · refine J_iload_n (i := 3) 13 dX8_cell_12 rfl rfl rfl ?_
        refine J_callSi 16 dX8_cell_13 rfl kX8_81 mX8_isLane (c_X8_isLane) (by first | decide | omega) rfl rfl (Nat.le_of_ble_eq_true rfl) (fun z6 s7 h5 => ?_)
        obtain ⟨rfl, rfl⟩ := h5
        refine J_bif_ne 23 19 dX8_cell_16 rfl rfl (fun c8 => ?_) (fun c8 => ?_)
        · refine J_aload_n (i := 0) 24 dX8_cell_23 rfl rfl rfl ?_
          refine J_aload_n (i := 0) 25 dX8_cell_24 rfl rfl rfl ?_
          refine J_getR 28 dX8_cell_25 rfl fX8_66 rfl rfl ?_
          refine J_iload_n (i := 1) 29 dX8_cell_28 rfl rfl rfl ?_
          refine J_aald 30 dX8_cell_29 rfl ?_
          try simp only [Int.reduceToNat, Nat.reduceMul, Nat.reduceAdd]
          refine J_iload_n (i := 3) 31 dX8_cell_30 rfl rfl rfl ?_
          refine J_iload_n (i := 2) 32 dX8_cell_31 rfl rfl rfl ?_
          refine J_iconst 33 dX8_cell_32 rfl ?_
          refine J_callVi 36 dX8_cell_33 rfl kX8_84 mX5_faultAs rfl rfl rfl (c_X5_faultAs) (by first | decide | omega) rfl rfl (Nat.le_of_ble_eq_true rfl) (fun z10 s11 h9 => ?_)
          obtain ⟨rfl, rfl⟩ := h9
          refine J.top (e' := faultM (σ _ 1) (σ _ 2) l i 1) rfl ?_
          refine J_putI (jz := 10) (lo := 0) (hi := 4) 39 dX8_cell_36 rfl gX8_74 rfl rfl rfl rfl ?_
          refine J.st (jup_jup _ _ _ _ _) ?_
          refine J_aload_n (i := 0) 40 dX8_cell_39 rfl rfl rfl ?_
          refine J_getI (jz := 10) (lo := 0) (hi := 4) 43 dX8_cell_40 rfl fX8_74 rfl rfl rfl rfl (fun b12 b13 => ?_)
          try simp +decide only [jup, jset, ↓reduceIte] at b12 b13 ⊢
          refine J_if_ne 61 46 dX8_cell_43 rfl rfl (fun c14 => ?_) (fun c14 => ?_)
          · refine J_ldc2 64 dX8_cell_61 rfl cstX8_248 ?_
            subst hQ0
            refine J_lret dX8_cell_64 rfl ?_
            refine ⟨?_, ?_⟩
            · first | rfl | (rw [if_pos (by omega)]; first | done | rfl) | (rw [if_neg (by omega)]; first | done | rfl) | (rw [if_neg (by omega), if_pos (by omega)]; first | done | rfl) | (rw [if_neg (by omega), if_neg (by omega)]; first | done | rfl) | (rw [if_neg (by omega), if_neg (by omega), if_pos (by omega)]; first | done | rfl) | (rw [if_neg (by omega), if_neg (by omega), if_neg (by omega)]; first | done | rfl) | (rw [if_neg (by omega), if_neg (by omega), if_neg (by omega), if_pos (by omega)]; first | done | rfl) | (rw [if_neg (by omega), if_neg (by omega), if_neg (by omega), if_neg (by omega)]; first | done | rfl) | (rw [if_neg (by omega), if_neg (by omega), if_neg (by omega), if_neg (by omega), if_pos (by omega)]; first | done | rfl) | (rw [if_neg (by omega), if_neg (by omega), if_neg (by omega), if_neg (by omega), if_neg (by omega)]; first | done | rfl)
            · first | (rw [if_pos (by omega)]; first | done | rfl) | (rw [if_neg (by omega)]; first | done | rfl)
          · have hf1 := hf0 (by omega)
            refine J_aload_n (i := 0) 47 dX8_cell_46 rfl rfl rfl ?_
            refine J_getR 50 dX8_cell_47 rfl fX8_66 rfl rfl ?_
            refine J_iload_n (i := 1) 51 dX8_cell_50 rfl rfl rfl ?_
            refine J_aald 52 dX8_cell_51 rfl ?_
            try simp only [Int.reduceToNat, Nat.reduceMul, Nat.reduceAdd]
            refine J_getR 55 dX8_cell_52 rfl fX8_270 rfl rfl ?_
            refine J_iload_n (i := 2) 56 dX8_cell_55 rfl rfl rfl ?_
            refine J_iald (N := 60) (lo := (-2147483648)) (hi := 2147483647) 57 dX8_cell_56 rfl rfl rfl rfl (fun b15 b16 => ?_)
            try simp +decide only [jup, jset, ↓reduceIte] at b15 b16 ⊢
            refine J_i2l 58 dX8_cell_57 rfl ?_
            refine J_goto 64 dX8_cell_58 rfl ?_
            subst hQ0
            refine J_lret dX8_cell_64 rfl ?_
            refine ⟨?_, ?_⟩
            · first | rfl | (rw [if_pos (by omega)]; first | done | rfl) | (rw [if_neg (by omega)]; first | done | rfl) | (rw [if_neg (by omega), if_pos (by omega)]; first | done | rfl) | (rw [if_neg (by omega), if_neg (by omega)]; first | done | rfl) | (rw [if_neg (by omega), if_neg (by omega), if_pos (by omega)]; first | done | rfl) | (rw [if_neg (by omega), if_neg (by omega), if_neg (by omega)]; first | done | rfl) | (rw [if_neg (by omega), if_neg (by omega), if_neg (by omega), if_pos (by omega)]; first | done | rfl) | (rw [if_neg (by omega), if_neg (by omega), if_neg (by omega), if_neg (by omega)]; first | done | rfl) | (rw [if_neg (by omega), if_neg (by omega), if_neg (by omega), if_neg (by omega), if_pos (by omega)]; first | done | rfl) | (rw [if_neg (by omega), if_neg (by omega), if_neg (by omega), if_neg (by omega), if_neg (by omega)]; first | done | rfl)
            · first | (rw [if_pos (by omega)]; first | done | rfl) | (rw [if_neg (by omega)]; first | done | rfl)
        · refine J_ldc2 22 dX8_cell_19 rfl cstX8_248 ?_
          subst hQ0
          refine J_lret dX8_cell_22 rfl ?_
          refine ⟨?_, ?_⟩
          · first | rfl | (rw [if_pos (by omega)]; first | done | rfl) | (rw [if_neg (by omega)]; first | done | rfl) | (rw [if_neg (by omega), if_pos (by omega)]; first | done | rfl) | (rw [if_neg (by omega), if_neg (by omega)]; first | done | rfl) | (rw [if_neg (by omega), if_neg (by omega), if_pos (by omega)]; first | done | rfl) | (rw [if_neg (by omega), if_neg (by omega), if_neg (by omega)]; first | done | rfl) | (rw [if_neg (by omega), if_neg (by omega), if_neg (by omega), if_pos (by omega)]; first | done | rfl) | (rw [if_neg (by omega), if_neg (by omega), if_neg (by omega), if_neg (by omega)]; first | done | rfl) | (rw [if_neg (by omega), if_neg (by omega), if_neg (by omega), if_neg (by omega), if_pos (by omega)]; first | done | rfl) | (rw [if_neg (by omega), if_neg (by omega), if_neg (by omega), if_neg (by omega), if_neg (by omega)]; first | done | rfl)
          · first | (rw [if_pos (by omega)]; first | done | rfl) | (rw [if_neg (by omega)]; first | done | rfl)
    )
  · skip
    refine Ct.of _ rfl rfl rfl (Nat.le_of_ble_eq_true rfl) (fun hB => ?_)
    refine J_aload_n (i := 0) 1 dX8_cell_0 rfl rfl rfl ?_
    refine J_iconst 2 dX8_cell_1 rfl ?_
    refine J_putI (jz := 10) (lo := 0) (hi := 4) 5 dX8_cell_2 rfl gX8_74 rfl rfl rfl rfl ?_
    refine J_iload_n (i := 1) 6 dX8_cell_5 rfl rfl rfl ?_
    refine J_callSi 9 dX8_cell_6 rfl kX8_77 mX8_isSheet (c_X8_isSheet) (by first | decide | omega) rfl rfl (Nat.le_of_ble_eq_true rfl) (fun z2 s3 h1 => ?_)
    obtain ⟨rfl, rfl⟩ := h1
    refine J_bif_eq 19 12 dX8_cell_9 rfl rfl (fun c4 => ?_) (fun c4 => ?_)
    · refine J_ldc2 22 dX8_cell_19 rfl cstX8_248 ?_
      refine J_lret dX8_cell_22 rfl ?_
      exact ⟨if_pos (by omega), by rw [if_pos (by omega)]⟩
    · exfalso; omega
def aCopy (k o sl1 len1 sl2 len2 i j n : Int) : Int := if ¬ ((0 ≤ k ∧ k < 4) ∧ 0 ≤ o ∧ o < 4) then -1 else if ¬ (¬ sl1 = -1 ∧ ¬ sl2 = -1) then -10 - 1 else if ¬ sl1 = sl2 then -10 - 2 else if ¬ ((0 ≤ i ∧ i ≤ len1 ∧ 0 ≤ n ∧ n ≤ len1 - i) ∧ (0 ≤ j ∧ j ≤ len2 ∧ 0 ≤ n ∧ n ≤ len2 - j)) then -10 - 3 else n
def sCopy (σ : jS) (w u : Nat) (k o i j n : Int) : jS := if ¬ ((0 ≤ k ∧ k < 4) ∧ 0 ≤ o ∧ o < 4) then jup σ 0 10 0 else if ¬ (¬ σ w 1 = -1 ∧ ¬ σ u 1 = -1) then jup σ 0 10 1 else if ¬ σ w 1 = σ u 1 then jup σ 0 10 2 else if ¬ ((0 ≤ i ∧ i ≤ σ w 2 ∧ 0 ≤ n ∧ n ≤ σ w 2 - i) ∧ (0 ≤ j ∧ j ≤ σ u 2 ∧ 0 ≤ n ∧ n ≤ σ u 2 - j)) then jup σ 0 10 3 else jset (jup σ 0 10 0) (u + 1) (jcpF (jup σ 0 10 0) (w + 1) i (u + 1) j n)
set_option maxHeartbeats 8000000 in
theorem c_X8_copy (hw : w = sc x) (ho : o = sc y) (hx : inR x) (hi : inR i) (hy : inR y) (hj : inR j) (hn : inR n) : Ct P 2 yX8_copy cX8_copy 8 (some .int) [vr P 0, vi x, vi i, vi y, vi j, vi n] σ (rI (aCopy x y (σ w 1) (σ w 2) (σ o 1) (σ o 2) i j n) (sCopy σ w o x y i j n)) := by
  refine Ct.bd (fun hB => ?_)
  unfold aCopy sCopy
  by_cases hxy : (0 ≤ x ∧ x < 4) ∧ 0 ≤ y ∧ y < 4
  · have hlb := len_b hB (w := w) (by unfold sc at hw; omega)
    have hlo := len_b hB (w := o) (by unfold sc at ho; omega)
    rcases sc4 hw hxy.1 with ⟨rfl, rfl⟩ | ⟨rfl, rfl⟩ | ⟨rfl, rfl⟩ | ⟨rfl, rfl⟩ <;> rcases sc4 ho hxy.2 with ⟨rfl, rfl⟩ | ⟨rfl, rfl⟩ | ⟨rfl, rfl⟩ | ⟨rfl, rfl⟩ <;> (
      refine Ct.of _ rfl rfl rfl (Nat.le_of_ble_eq_true rfl) (fun hB => ?_)
      refine J.guard (fun Q0 hQ0 => ?_)
      refine J_aload_n (i := 0) 1 dX8_copy_0 rfl rfl rfl ?_
      refine J_iconst 2 dX8_copy_1 rfl ?_
      refine J_putI (jz := 10) (lo := 0) (hi := 4) 5 dX8_copy_2 rfl gX8_74 rfl rfl rfl rfl ?_
      refine J_iload_n (i := 1) 6 dX8_copy_5 rfl rfl rfl ?_
      refine J_callSi 9 dX8_copy_6 rfl kX8_77 mX8_isSheet (c_X8_isSheet) (by first | decide | omega) rfl rfl (Nat.le_of_ble_eq_true rfl) (fun z2 s3 h1 => ?_)
      obtain ⟨rfl, rfl⟩ := h1
      refine J_bif_eq 19 12 dX8_copy_9 rfl rfl (fun c4 => ?_) (fun c4 => ?_)
      · subst hQ0
        exfalso; omega
      · refine J_iload_n (i := 3) 13 dX8_copy_12 rfl rfl rfl ?_
        refine J_callSi 16 dX8_copy_13 rfl kX8_77 mX8_isSheet (c_X8_isSheet) (by first | decide | omega) rfl rfl (Nat.le_of_ble_eq_true rfl) (fun z6 s7 h5 => ?_)
        obtain ⟨rfl, rfl⟩ := h5
        refine J_bif_ne 21 19 dX8_copy_16 rfl rfl (fun c8 => ?_) (fun c8 => ?_)
        · refine J_aload_n (i := 0) 22 dX8_copy_21 rfl rfl rfl ?_
          refine J_getR 25 dX8_copy_22 rfl fX8_66 rfl rfl ?_
          refine J_iload_n (i := 1) 26 dX8_copy_25 rfl rfl rfl ?_
          refine J_aald 27 dX8_copy_26 rfl ?_
          try simp only [Int.reduceToNat, Nat.reduceMul, Nat.reduceAdd]
          refine J_astore 29 dX8_copy_27 rfl (by decide) ?_
          refine J_aload_n (i := 0) 30 dX8_copy_29 rfl rfl rfl ?_
          refine J_getR 33 dX8_copy_30 rfl fX8_66 rfl rfl ?_
          refine J_iload_n (i := 3) 34 dX8_copy_33 rfl rfl rfl ?_
          refine J_aald 35 dX8_copy_34 rfl ?_
          try simp only [Int.reduceToNat, Nat.reduceMul, Nat.reduceAdd]
          refine J_astore 37 dX8_copy_35 rfl (by decide) ?_
          refine J_aload 39 dX8_copy_37 rfl rfl ?_
          refine J_callVi 42 dX8_copy_39 rfl kX8_260 mX5_hasRow rfl rfl rfl (c_X5_hasRow) (by first | decide | omega) rfl rfl (Nat.le_of_ble_eq_true rfl) (fun z10 s11 h9 => ?_)
          obtain ⟨rfl, rfl⟩ := h9
          refine J.top (e' := b01 (¬ σ _ 1 = -1)) rfl ?_
          refine J_bif_eq 53 45 dX8_copy_42 rfl rfl (fun c12 => ?_) (fun c12 => ?_)
          · refine J_aload_n (i := 0) 54 dX8_copy_53 rfl rfl rfl ?_
            refine J_iconst 55 dX8_copy_54 rfl ?_
            refine J_callVi 58 dX8_copy_55 rfl kX8_88 mX8_faulted rfl rfl rfl (c_X8_faulted) (by first | decide | omega) rfl rfl (Nat.le_of_ble_eq_true rfl) (fun z14 s15 h13 => ?_)
            obtain ⟨rfl, rfl⟩ := h13
            subst hQ0
            refine J_iret dX8_copy_58 rfl ?_
            refine ⟨?_, ?_⟩
            · first | rfl | (rw [if_pos (by omega)]; first | done | rfl) | (rw [if_neg (by omega)]; first | done | rfl) | (rw [if_neg (by omega), if_pos (by omega)]; first | done | rfl) | (rw [if_neg (by omega), if_neg (by omega)]; first | done | rfl) | (rw [if_neg (by omega), if_neg (by omega), if_pos (by omega)]; first | done | rfl) | (rw [if_neg (by omega), if_neg (by omega), if_neg (by omega)]; first | done | rfl) | (rw [if_neg (by omega), if_neg (by omega), if_neg (by omega), if_pos (by omega)]; first | done | rfl) | (rw [if_neg (by omega), if_neg (by omega), if_neg (by omega), if_neg (by omega)]; first | done | rfl) | (rw [if_neg (by omega), if_neg (by omega), if_neg (by omega), if_neg (by omega), if_pos (by omega)]; first | done | rfl) | (rw [if_neg (by omega), if_neg (by omega), if_neg (by omega), if_neg (by omega), if_neg (by omega)]; first | done | rfl)
            · first | (rw [if_neg (by omega), if_pos (by omega), jup_jup]; first | done | rfl) | (rw [if_neg (by omega), if_neg (by omega), if_pos (by omega), jup_jup]; first | done | rfl) | (rw [if_neg (by omega), if_neg (by omega), if_neg (by omega), if_pos (by omega), jup_jup]; first | done | rfl) | (rw [if_neg (by omega), if_neg (by omega), if_neg (by omega), if_neg (by omega)]; first | done | rfl)
          · refine J_aload 47 dX8_copy_45 rfl rfl ?_
            refine J_callVi 50 dX8_copy_47 rfl kX8_260 mX5_hasRow rfl rfl rfl (c_X5_hasRow) (by first | decide | omega) rfl rfl (Nat.le_of_ble_eq_true rfl) (fun z17 s18 h16 => ?_)
            obtain ⟨rfl, rfl⟩ := h16
            refine J.top (e' := b01 (¬ σ _ 1 = -1)) rfl ?_
            refine J_bif_ne 59 53 dX8_copy_50 rfl rfl (fun c19 => ?_) (fun c19 => ?_)
            · refine J_aload 61 dX8_copy_59 rfl rfl ?_
              refine J_getI (jz := 1) (lo := (-1)) (hi := 2) 64 dX8_copy_61 rfl fX8_276 rfl rfl rfl rfl (fun b20 b21 => ?_)
              try simp +decide only [jup, jset, ↓reduceIte] at b20 b21 ⊢
              refine J_aload 66 dX8_copy_64 rfl rfl ?_
              refine J_getI (jz := 1) (lo := (-1)) (hi := 2) 69 dX8_copy_66 rfl fX8_276 rfl rfl rfl rfl (fun b22 b23 => ?_)
              try simp +decide only [jup, jset, ↓reduceIte] at b22 b23 ⊢
              refine J_icmp_eq 78 72 dX8_copy_69 rfl rfl (fun c24 => ?_) (fun c24 => ?_)
              · refine J_aload 80 dX8_copy_78 rfl rfl ?_
                refine J_iload_n (i := 2) 81 dX8_copy_80 rfl rfl rfl ?_
                refine J_iload 83 dX8_copy_81 rfl rfl ?_
                refine J_callVi 86 dX8_copy_83 rfl kX8_266 mX5_hasCells rfl rfl rfl (c_X5_hasCells) (by first | decide | omega) rfl rfl (Nat.le_of_ble_eq_true rfl) (fun z26 s27 h25 => ?_)
                obtain ⟨rfl, rfl⟩ := h25
                refine J.top (e' := b01 (0 ≤ i ∧ i ≤ σ _ 2 ∧ 0 ≤ n ∧ n ≤ σ _ 2 - i)) rfl ?_
                refine J_bif_eq 101 89 dX8_copy_86 rfl rfl (fun c28 => ?_) (fun c28 => ?_)
                · refine J_aload_n (i := 0) 102 dX8_copy_101 rfl rfl rfl ?_
                  refine J_iconst 103 dX8_copy_102 rfl ?_
                  refine J_callVi 106 dX8_copy_103 rfl kX8_88 mX8_faulted rfl rfl rfl (c_X8_faulted) (by first | decide | omega) rfl rfl (Nat.le_of_ble_eq_true rfl) (fun z30 s31 h29 => ?_)
                  obtain ⟨rfl, rfl⟩ := h29
                  subst hQ0
                  refine J_iret dX8_copy_106 rfl ?_
                  refine ⟨?_, ?_⟩
                  · first | rfl | (rw [if_pos (by omega)]; first | done | rfl) | (rw [if_neg (by omega)]; first | done | rfl) | (rw [if_neg (by omega), if_pos (by omega)]; first | done | rfl) | (rw [if_neg (by omega), if_neg (by omega)]; first | done | rfl) | (rw [if_neg (by omega), if_neg (by omega), if_pos (by omega)]; first | done | rfl) | (rw [if_neg (by omega), if_neg (by omega), if_neg (by omega)]; first | done | rfl) | (rw [if_neg (by omega), if_neg (by omega), if_neg (by omega), if_pos (by omega)]; first | done | rfl) | (rw [if_neg (by omega), if_neg (by omega), if_neg (by omega), if_neg (by omega)]; first | done | rfl) | (rw [if_neg (by omega), if_neg (by omega), if_neg (by omega), if_neg (by omega), if_pos (by omega)]; first | done | rfl) | (rw [if_neg (by omega), if_neg (by omega), if_neg (by omega), if_neg (by omega), if_neg (by omega)]; first | done | rfl)
                  · first | (rw [if_neg (by omega), if_pos (by omega), jup_jup]; first | done | rfl) | (rw [if_neg (by omega), if_neg (by omega), if_pos (by omega), jup_jup]; first | done | rfl) | (rw [if_neg (by omega), if_neg (by omega), if_neg (by omega), if_pos (by omega), jup_jup]; first | done | rfl) | (rw [if_neg (by omega), if_neg (by omega), if_neg (by omega), if_neg (by omega)]; first | done | rfl)
                · refine J_aload 91 dX8_copy_89 rfl rfl ?_
                  refine J_iload 93 dX8_copy_91 rfl rfl ?_
                  refine J_iload 95 dX8_copy_93 rfl rfl ?_
                  refine J_callVi 98 dX8_copy_95 rfl kX8_266 mX5_hasCells rfl rfl rfl (c_X5_hasCells) (by first | decide | omega) rfl rfl (Nat.le_of_ble_eq_true rfl) (fun z33 s34 h32 => ?_)
                  obtain ⟨rfl, rfl⟩ := h32
                  refine J.top (e' := b01 (0 ≤ j ∧ j ≤ σ _ 2 ∧ 0 ≤ n ∧ n ≤ σ _ 2 - j)) rfl ?_
                  refine J_bif_ne 107 101 dX8_copy_98 rfl rfl (fun c35 => ?_) (fun c35 => ?_)
                  · refine J_aload 109 dX8_copy_107 rfl rfl ?_
                    refine J_getR 112 dX8_copy_109 rfl fX8_270 rfl rfl ?_
                    refine J_iload_n (i := 2) 113 dX8_copy_112 rfl rfl rfl ?_
                    refine J_aload 115 dX8_copy_113 rfl rfl ?_
                    refine J_getR 118 dX8_copy_115 rfl fX8_270 rfl rfl ?_
                    refine J_iload 120 dX8_copy_118 rfl rfl ?_
                    refine J_iload 122 dX8_copy_120 rfl rfl ?_
                    refine J_copy (Na := 60) (Nb := 60) 125 dX8_copy_122 rfl kX8_279 rfl rfl rfl rfl rfl (by decide) rfl ?_
                    refine J_iload 127 dX8_copy_125 rfl rfl ?_
                    subst hQ0
                    refine J_iret dX8_copy_127 rfl ?_
                    refine ⟨?_, ?_⟩
                    · first | rfl | (rw [if_pos (by omega)]; first | done | rfl) | (rw [if_neg (by omega)]; first | done | rfl) | (rw [if_neg (by omega), if_pos (by omega)]; first | done | rfl) | (rw [if_neg (by omega), if_neg (by omega)]; first | done | rfl) | (rw [if_neg (by omega), if_neg (by omega), if_pos (by omega)]; first | done | rfl) | (rw [if_neg (by omega), if_neg (by omega), if_neg (by omega)]; first | done | rfl) | (rw [if_neg (by omega), if_neg (by omega), if_neg (by omega), if_pos (by omega)]; first | done | rfl) | (rw [if_neg (by omega), if_neg (by omega), if_neg (by omega), if_neg (by omega)]; first | done | rfl) | (rw [if_neg (by omega), if_neg (by omega), if_neg (by omega), if_neg (by omega), if_pos (by omega)]; first | done | rfl) | (rw [if_neg (by omega), if_neg (by omega), if_neg (by omega), if_neg (by omega), if_neg (by omega)]; first | done | rfl)
                    · first | (rw [if_neg (by omega), if_pos (by omega), jup_jup]; first | done | rfl) | (rw [if_neg (by omega), if_neg (by omega), if_pos (by omega), jup_jup]; first | done | rfl) | (rw [if_neg (by omega), if_neg (by omega), if_neg (by omega), if_pos (by omega), jup_jup]; first | done | rfl) | (rw [if_neg (by omega), if_neg (by omega), if_neg (by omega), if_neg (by omega)]; first | done | rfl)
                  · refine J_aload_n (i := 0) 102 dX8_copy_101 rfl rfl rfl ?_
                    refine J_iconst 103 dX8_copy_102 rfl ?_
                    refine J_callVi 106 dX8_copy_103 rfl kX8_88 mX8_faulted rfl rfl rfl (c_X8_faulted) (by first | decide | omega) rfl rfl (Nat.le_of_ble_eq_true rfl) (fun z37 s38 h36 => ?_)
                    obtain ⟨rfl, rfl⟩ := h36
                    subst hQ0
                    refine J_iret dX8_copy_106 rfl ?_
                    refine ⟨?_, ?_⟩
                    · first | rfl | (rw [if_pos (by omega)]; first | done | rfl) | (rw [if_neg (by omega)]; first | done | rfl) | (rw [if_neg (by omega), if_pos (by omega)]; first | done | rfl) | (rw [if_neg (by omega), if_neg (by omega)]; first | done | rfl) | (rw [if_neg (by omega), if_neg (by omega), if_pos (by omega)]; first | done | rfl) | (rw [if_neg (by omega), if_neg (by omega), if_neg (by omega)]; first | done | rfl) | (rw [if_neg (by omega), if_neg (by omega), if_neg (by omega), if_pos (by omega)]; first | done | rfl) | (rw [if_neg (by omega), if_neg (by omega), if_neg (by omega), if_neg (by omega)]; first | done | rfl) | (rw [if_neg (by omega), if_neg (by omega), if_neg (by omega), if_neg (by omega), if_pos (by omega)]; first | done | rfl) | (rw [if_neg (by omega), if_neg (by omega), if_neg (by omega), if_neg (by omega), if_neg (by omega)]; first | done | rfl)
                    · first | (rw [if_neg (by omega), if_pos (by omega), jup_jup]; first | done | rfl) | (rw [if_neg (by omega), if_neg (by omega), if_pos (by omega), jup_jup]; first | done | rfl) | (rw [if_neg (by omega), if_neg (by omega), if_neg (by omega), if_pos (by omega), jup_jup]; first | done | rfl) | (rw [if_neg (by omega), if_neg (by omega), if_neg (by omega), if_neg (by omega)]; first | done | rfl)
              · refine J_aload_n (i := 0) 73 dX8_copy_72 rfl rfl rfl ?_
                refine J_iconst 74 dX8_copy_73 rfl ?_
                refine J_callVi 77 dX8_copy_74 rfl kX8_88 mX8_faulted rfl rfl rfl (c_X8_faulted) (by first | decide | omega) rfl rfl (Nat.le_of_ble_eq_true rfl) (fun z40 s41 h39 => ?_)
                obtain ⟨rfl, rfl⟩ := h39
                subst hQ0
                refine J_iret dX8_copy_77 rfl ?_
                refine ⟨?_, ?_⟩
                · first | rfl | (rw [if_pos (by omega)]; first | done | rfl) | (rw [if_neg (by omega)]; first | done | rfl) | (rw [if_neg (by omega), if_pos (by omega)]; first | done | rfl) | (rw [if_neg (by omega), if_neg (by omega)]; first | done | rfl) | (rw [if_neg (by omega), if_neg (by omega), if_pos (by omega)]; first | done | rfl) | (rw [if_neg (by omega), if_neg (by omega), if_neg (by omega)]; first | done | rfl) | (rw [if_neg (by omega), if_neg (by omega), if_neg (by omega), if_pos (by omega)]; first | done | rfl) | (rw [if_neg (by omega), if_neg (by omega), if_neg (by omega), if_neg (by omega)]; first | done | rfl) | (rw [if_neg (by omega), if_neg (by omega), if_neg (by omega), if_neg (by omega), if_pos (by omega)]; first | done | rfl) | (rw [if_neg (by omega), if_neg (by omega), if_neg (by omega), if_neg (by omega), if_neg (by omega)]; first | done | rfl)
                · first | (rw [if_neg (by omega), if_pos (by omega), jup_jup]; first | done | rfl) | (rw [if_neg (by omega), if_neg (by omega), if_pos (by omega), jup_jup]; first | done | rfl) | (rw [if_neg (by omega), if_neg (by omega), if_neg (by omega), if_pos (by omega), jup_jup]; first | done | rfl) | (rw [if_neg (by omega), if_neg (by omega), if_neg (by omega), if_neg (by omega)]; first | done | rfl)
            · refine J_aload_n (i := 0) 54 dX8_copy_53 rfl rfl rfl ?_
              refine J_iconst 55 dX8_copy_54 rfl ?_
              refine J_callVi 58 dX8_copy_55 rfl kX8_88 mX8_faulted rfl rfl rfl (c_X8_faulted) (by first | decide | omega) rfl rfl (Nat.le_of_ble_eq_true rfl) (fun z43 s44 h42 => ?_)
              obtain ⟨rfl, rfl⟩ := h42
              subst hQ0
              refine J_iret dX8_copy_58 rfl ?_
              refine ⟨?_, ?_⟩
              · first | rfl | (rw [if_pos (by omega)]; first | done | rfl) | (rw [if_neg (by omega)]; first | done | rfl) | (rw [if_neg (by omega), if_pos (by omega)]; first | done | rfl) | (rw [if_neg (by omega), if_neg (by omega)]; first | done | rfl) | (rw [if_neg (by omega), if_neg (by omega), if_pos (by omega)]; first | done | rfl) | (rw [if_neg (by omega), if_neg (by omega), if_neg (by omega)]; first | done | rfl) | (rw [if_neg (by omega), if_neg (by omega), if_neg (by omega), if_pos (by omega)]; first | done | rfl) | (rw [if_neg (by omega), if_neg (by omega), if_neg (by omega), if_neg (by omega)]; first | done | rfl) | (rw [if_neg (by omega), if_neg (by omega), if_neg (by omega), if_neg (by omega), if_pos (by omega)]; first | done | rfl) | (rw [if_neg (by omega), if_neg (by omega), if_neg (by omega), if_neg (by omega), if_neg (by omega)]; first | done | rfl)
              · first | (rw [if_neg (by omega), if_pos (by omega), jup_jup]; first | done | rfl) | (rw [if_neg (by omega), if_neg (by omega), if_pos (by omega), jup_jup]; first | done | rfl) | (rw [if_neg (by omega), if_neg (by omega), if_neg (by omega), if_pos (by omega), jup_jup]; first | done | rfl) | (rw [if_neg (by omega), if_neg (by omega), if_neg (by omega), if_neg (by omega)]; first | done | rfl)
        · subst hQ0
          exfalso; omega
    )
  · skip
    refine Ct.of _ rfl rfl rfl (Nat.le_of_ble_eq_true rfl) (fun hB => ?_)
    refine J_aload_n (i := 0) 1 dX8_copy_0 rfl rfl rfl ?_
    refine J_iconst 2 dX8_copy_1 rfl ?_
    refine J_putI (jz := 10) (lo := 0) (hi := 4) 5 dX8_copy_2 rfl gX8_74 rfl rfl rfl rfl ?_
    refine J_iload_n (i := 1) 6 dX8_copy_5 rfl rfl rfl ?_
    refine J_callSi 9 dX8_copy_6 rfl kX8_77 mX8_isSheet (c_X8_isSheet) (by first | decide | omega) rfl rfl (Nat.le_of_ble_eq_true rfl) (fun z2 s3 h1 => ?_)
    obtain ⟨rfl, rfl⟩ := h1
    refine J_bif_eq 19 12 dX8_copy_9 rfl rfl (fun c4 => ?_) (fun c4 => ?_)
    · refine J_iconst 20 dX8_copy_19 rfl ?_
      refine J_iret dX8_copy_20 rfl ?_
      exact ⟨if_pos (by omega), if_pos (by omega)⟩
    · refine J_iload_n (i := 3) 13 dX8_copy_12 rfl rfl rfl ?_
      refine J_callSi 16 dX8_copy_13 rfl kX8_77 mX8_isSheet (c_X8_isSheet) (by first | decide | omega) rfl rfl (Nat.le_of_ble_eq_true rfl) (fun z6 s7 h5 => ?_)
      obtain ⟨rfl, rfl⟩ := h5
      refine J_bif_ne 21 19 dX8_copy_16 rfl rfl (fun c8 => ?_) (fun c8 => ?_)
      · exfalso; omega
      · refine J_iconst 20 dX8_copy_19 rfl ?_
        refine J_iret dX8_copy_20 rfl ?_
        exact ⟨if_pos (by omega), if_pos (by omega)⟩
end

