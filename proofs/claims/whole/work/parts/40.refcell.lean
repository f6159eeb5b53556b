/-! ===== the reference: cell, copy ===== -/
def fRc (σ : jS) (k i l : Int) : Int := if 0 ≤ σ 61 k ∧ ¬ σ 62 k = l then 2 else if σ 61 k < 0 then 1 else if 0 ≤ i ∧ i < σ 61 k then 0 else 3
def eRCell (σ : jS) (k i l : Int) : Int := if ¬ ((0 ≤ k ∧ k < 4) ∧ 0 ≤ l ∧ l ≤ 2) then -9223372036854775808 else if fRc σ k i l = 0 then σ 63 (60 * k + i) else -9223372036854775808
def rCell (σ : jS) (k i l : Int) : jS := if ¬ ((0 ≤ k ∧ k < 4) ∧ 0 ≤ l ∧ l ≤ 2) then jup σ 36 0 0 else jup σ 36 0 (fRc σ k i l)
theorem nc_c {s i v : Int} (h : (if s < 0 then (1 : Int) else if 0 ≤ i ∧ i < s then 0 else 3) = v) : (v = 1 ∧ s < 0) ∨ (v = 3 ∧ 0 ≤ s ∧ ¬ (0 ≤ i ∧ i < s)) ∨ (v = 0 ∧ 0 ≤ s ∧ (0 ≤ i ∧ i < s)) := by
  by_cases e : s < 0
  · rw [if_pos e] at h; omega
  · rw [if_neg e] at h
    by_cases e2 : 0 ≤ i ∧ i < s
    · rw [if_pos e2] at h; omega
    · rw [if_neg e2] at h; omega
section
variable {P : jP} {w o : Nat} {a b c d g x y z n s i j k l : Int} {σ τ v : jS}
theorem c_X9_cell (hx : inR x) (hi : inR i) (hl : inR l) : Ct P 3 yX9_cell cX9_cell 4 (some .long) [vr P 36, vi x, vi i, vi l] σ (rL (eRCell σ x i l) (rCell σ x i l)) := by
  refine Ct.bd (fun hB => ?_)
  have h61 : -1 ≤ σ 61 x ∧ σ 61 x ≤ 60 := hB 61 x
  have h62 : 0 ≤ σ 62 x ∧ σ 62 x ≤ 2 := hB 62 x
  have hz0 : jup (jup σ 36 0 0) 36 0 2 = jup σ 36 0 2 := jup_jup _ _ _ _ _
  refine Ct.of _ rfl rfl rfl (Nat.le_of_ble_eq_true rfl) (fun hB => ?_)
  refine J_aload_n (i := 0) 1 dX9_cell_0 rfl rfl rfl ?_
  refine J_iconst 2 dX9_cell_1 rfl ?_
  refine J_putI (jz := 0) (lo := 0) (hi := 4) 5 dX9_cell_2 rfl gX9_96 rfl rfl rfl rfl ?_
  refine J_iload_n (i := 1) 6 dX9_cell_5 rfl rfl rfl ?_
  refine J_callSi 9 dX9_cell_6 rfl kX9_146 mX9_noSheet (c_X9_noSheet) (by first | decide | omega) rfl rfl (Nat.le_of_ble_eq_true rfl) (fun z2 s3 h1 => ?_)
  obtain ⟨rfl, rfl⟩ := h1
  refine J_bif_ne 24 12 dX9_cell_9 rfl rfl (fun c4 => ?_) (fun c4 => ?_)
  · refine J_callSl 27 dX9_cell_24 rfl kX9_100 mX9_lost (c_X9_lost) (by first | decide | omega) rfl rfl (Nat.le_of_ble_eq_true rfl) (fun z6 s7 h5 => ?_)
    obtain ⟨rfl, rfl⟩ := h5
    refine J_lret dX9_cell_27 rfl ?_
    unfold eRCell rCell
    exact ⟨if_pos (by omega), if_pos (by omega)⟩
  · refine J_iload_n (i := 3) 13 dX9_cell_12 rfl rfl rfl ?_
    refine J_i2l 14 dX9_cell_13 rfl ?_
    refine J_lconst (z := 0) 15 dX9_cell_14 rfl rfl ?_
    refine J_ldc2 18 dX9_cell_15 rfl cstX9_153 ?_
    refine J_callSi 21 dX9_cell_18 rfl kX9_107 mX9_in (c_X9_in) (by first | decide | omega) rfl rfl (Nat.le_of_ble_eq_true rfl) (fun z9 s10 h8 => ?_)
    obtain ⟨rfl, rfl⟩ := h8
    refine J_bif_ne 28 24 dX9_cell_21 rfl rfl (fun c11 => ?_) (fun c11 => ?_)
    · refine J_aload_n (i := 0) 29 dX9_cell_28 rfl rfl rfl ?_
      refine J_getR 32 dX9_cell_29 rfl fX9_82 rfl rfl ?_
      refine J_iload_n (i := 1) 33 dX9_cell_32 rfl rfl rfl ?_
      refine J_iald (N := 4) (lo := (-1)) (hi := 60) 34 dX9_cell_33 rfl rfl rfl rfl (fun b12 b13 => ?_)
      simp only [jup_ne (show (61 : Nat) ≠ 36 by decide)] at *
      refine J_if_lt 53 37 dX9_cell_34 rfl rfl (fun c14 => ?_) (fun c14 => ?_)
      · refine J_aload_n (i := 0) 54 dX9_cell_53 rfl rfl rfl ?_
        refine J_iload_n (i := 1) 55 dX9_cell_54 rfl rfl rfl ?_
        refine J_iload_n (i := 2) 56 dX9_cell_55 rfl rfl rfl ?_
        refine J_callVi 59 dX9_cell_56 rfl kX9_305 mX9_noCell rfl rfl rfl (c_X9_noCell) (by first | decide | omega) rfl rfl (Nat.le_of_ble_eq_true rfl) (fun z16 s17 h15 => ?_)
        obtain ⟨rfl, rfl⟩ := h15
        rw [jup_ne (show (61 : Nat) ≠ 36 by decide)]
        generalize hnv : (if σ 61 x < 0 then (1 : Int) else if 0 ≤ i ∧ i < σ 61 x then 0 else 3) = nv
        have hnc := nc_c hnv
        refine J_if_le 75 62 dX9_cell_59 rfl rfl (fun c18 => ?_) (fun c18 => ?_)
        · refine J_aload_n (i := 0) 76 dX9_cell_75 rfl rfl rfl ?_
          refine J_getR 79 dX9_cell_76 rfl fX9_88 rfl rfl ?_
          refine J_bipush 81 dX9_cell_79 rfl (by decide) ?_
          refine J_iload_n (i := 1) 82 dX9_cell_81 rfl rfl rfl ?_
          refine J_imul 83 dX9_cell_82 rfl ?_
          refine J_iload_n (i := 2) 84 dX9_cell_83 rfl rfl rfl ?_
          refine J_iadd 85 dX9_cell_84 rfl ?_
          refine J_iald (N := 240) (lo := (-2147483648)) (hi := 2147483647) 86 dX9_cell_85 rfl rfl rfl rfl (fun b19 b20 => ?_)
          refine J_i2l 87 dX9_cell_86 rfl ?_
          refine J_lret dX9_cell_87 rfl ?_
          unfold eRCell rCell
          rcases hnc with ⟨rfl, h⟩ | ⟨rfl, h⟩ | ⟨rfl, h⟩
          · have hf : fRc σ x i l = 1 := by unfold fRc; rw [if_neg (by omega), if_pos (by omega)]
            first | (exfalso; omega) | (rw [hf]; exact ⟨by rw [if_neg (by omega), if_neg (by omega)], by rw [if_neg (by omega)]; exact (jup_jup _ _ _ _ _).symm⟩)
          · first
              | (exfalso; omega)
              | (have hf : fRc σ x i l = 3 := by { unfold fRc; rw [if_neg (by omega), if_neg (by omega), if_neg (by omega)] }
                 rw [hf]
                 exact ⟨by rw [if_neg (by omega), if_neg (by omega)], by rw [if_neg (by omega)]; exact (jup_jup _ _ _ _ _).symm⟩)
          · first
              | (exfalso; omega)
              | (have hf : fRc σ x i l = 0 := by { unfold fRc; rw [if_neg (by omega), if_neg (by omega), if_pos (by omega)] }
                 rw [hf]
                 exact ⟨by rw [if_neg (by omega), if_pos rfl]; rfl, by rw [if_neg (by omega)]⟩)
        · refine J_aload_n (i := 0) 63 dX9_cell_62 rfl rfl rfl ?_
          refine J_aload_n (i := 0) 64 dX9_cell_63 rfl rfl rfl ?_
          refine J_iload_n (i := 1) 65 dX9_cell_64 rfl rfl rfl ?_
          refine J_iload_n (i := 2) 66 dX9_cell_65 rfl rfl rfl ?_
          refine J_callVi 69 dX9_cell_66 rfl kX9_305 mX9_noCell rfl rfl rfl (c_X9_noCell) (by first | decide | omega) rfl rfl (Nat.le_of_ble_eq_true rfl) (fun z22 s23 h21 => ?_)
          obtain ⟨rfl, rfl⟩ := h21
          rw [jup_ne (show (61 : Nat) ≠ 36 by decide), hnv]
          refine J_callVl 72 dX9_cell_69 rfl kX9_308 mX9_failedLong rfl rfl rfl (c_X9_failedLong) (by first | decide | omega) rfl rfl (Nat.le_of_ble_eq_true rfl) (fun z25 s26 h24 => ?_)
          obtain ⟨rfl, rfl⟩ := h24
          refine J_goto 87 dX9_cell_72 rfl ?_
          refine J_lret dX9_cell_87 rfl ?_
          unfold eRCell rCell
          rcases hnc with ⟨rfl, h⟩ | ⟨rfl, h⟩ | ⟨rfl, h⟩
          · have hf : fRc σ x i l = 1 := by unfold fRc; rw [if_neg (by omega), if_pos (by omega)]
            first | (exfalso; omega) | (rw [hf]; exact ⟨by rw [if_neg (by omega), if_neg (by omega)], by rw [if_neg (by omega)]; exact (jup_jup _ _ _ _ _).symm⟩)
          · first
              | (exfalso; omega)
              | (have hf : fRc σ x i l = 3 := by { unfold fRc; rw [if_neg (by omega), if_neg (by omega), if_neg (by omega)] }
                 rw [hf]
                 exact ⟨by rw [if_neg (by omega), if_neg (by omega)], by rw [if_neg (by omega)]; exact (jup_jup _ _ _ _ _).symm⟩)
          · first
              | (exfalso; omega)
              | (have hf : fRc σ x i l = 0 := by { unfold fRc; rw [if_neg (by omega), if_neg (by omega), if_pos (by omega)] }
                 rw [hf]
                 exact ⟨by rw [if_neg (by omega), if_pos rfl]; rfl, by rw [if_neg (by omega)]⟩)
      · refine J_aload_n (i := 0) 38 dX9_cell_37 rfl rfl rfl ?_
        refine J_getR 41 dX9_cell_38 rfl fX9_85 rfl rfl ?_
        refine J_iload_n (i := 1) 42 dX9_cell_41 rfl rfl rfl ?_
        refine J_iald (N := 4) (lo := 0) (hi := 2) 43 dX9_cell_42 rfl rfl rfl rfl (fun b27 b28 => ?_)
        refine J_iload_n (i := 3) 44 dX9_cell_43 rfl rfl rfl ?_
        simp only [jup_ne (show (62 : Nat) ≠ 36 by decide)] at *
        refine J_icmp_eq 53 47 dX9_cell_44 rfl rfl (fun c29 => ?_) (fun c29 => ?_)
        · refine J_aload_n (i := 0) 54 dX9_cell_53 rfl rfl rfl ?_
          refine J_iload_n (i := 1) 55 dX9_cell_54 rfl rfl rfl ?_
          refine J_iload_n (i := 2) 56 dX9_cell_55 rfl rfl rfl ?_
          refine J_callVi 59 dX9_cell_56 rfl kX9_305 mX9_noCell rfl rfl rfl (c_X9_noCell) (by first | decide | omega) rfl rfl (Nat.le_of_ble_eq_true rfl) (fun z31 s32 h30 => ?_)
          obtain ⟨rfl, rfl⟩ := h30
          rw [jup_ne (show (61 : Nat) ≠ 36 by decide)]
          generalize hnv : (if σ 61 x < 0 then (1 : Int) else if 0 ≤ i ∧ i < σ 61 x then 0 else 3) = nv
          have hnc := nc_c hnv
          refine J_if_le 75 62 dX9_cell_59 rfl rfl (fun c33 => ?_) (fun c33 => ?_)
          · refine J_aload_n (i := 0) 76 dX9_cell_75 rfl rfl rfl ?_
            refine J_getR 79 dX9_cell_76 rfl fX9_88 rfl rfl ?_
            refine J_bipush 81 dX9_cell_79 rfl (by decide) ?_
            refine J_iload_n (i := 1) 82 dX9_cell_81 rfl rfl rfl ?_
            refine J_imul 83 dX9_cell_82 rfl ?_
            refine J_iload_n (i := 2) 84 dX9_cell_83 rfl rfl rfl ?_
            refine J_iadd 85 dX9_cell_84 rfl ?_
            refine J_iald (N := 240) (lo := (-2147483648)) (hi := 2147483647) 86 dX9_cell_85 rfl rfl rfl rfl (fun b34 b35 => ?_)
            refine J_i2l 87 dX9_cell_86 rfl ?_
            refine J_lret dX9_cell_87 rfl ?_
            unfold eRCell rCell
            rcases hnc with ⟨rfl, h⟩ | ⟨rfl, h⟩ | ⟨rfl, h⟩
            · have hf : fRc σ x i l = 1 := by unfold fRc; rw [if_neg (by omega), if_pos (by omega)]
              first | (exfalso; omega) | (rw [hf]; exact ⟨by rw [if_neg (by omega), if_neg (by omega)], by rw [if_neg (by omega)]; exact (jup_jup _ _ _ _ _).symm⟩)
            · first
                | (exfalso; omega)
                | (have hf : fRc σ x i l = 3 := by { unfold fRc; rw [if_neg (by omega), if_neg (by omega), if_neg (by omega)] }
                   rw [hf]
                   exact ⟨by rw [if_neg (by omega), if_neg (by omega)], by rw [if_neg (by omega)]; exact (jup_jup _ _ _ _ _).symm⟩)
            · first
                | (exfalso; omega)
                | (have hf : fRc σ x i l = 0 := by { unfold fRc; rw [if_neg (by omega), if_neg (by omega), if_pos (by omega)] }
                   rw [hf]
                   exact ⟨by rw [if_neg (by omega), if_pos rfl]; rfl, by rw [if_neg (by omega)]⟩)
          · refine J_aload_n (i := 0) 63 dX9_cell_62 rfl rfl rfl ?_
            refine J_aload_n (i := 0) 64 dX9_cell_63 rfl rfl rfl ?_
            refine J_iload_n (i := 1) 65 dX9_cell_64 rfl rfl rfl ?_
            refine J_iload_n (i := 2) 66 dX9_cell_65 rfl rfl rfl ?_
            refine J_callVi 69 dX9_cell_66 rfl kX9_305 mX9_noCell rfl rfl rfl (c_X9_noCell) (by first | decide | omega) rfl rfl (Nat.le_of_ble_eq_true rfl) (fun z37 s38 h36 => ?_)
            obtain ⟨rfl, rfl⟩ := h36
            rw [jup_ne (show (61 : Nat) ≠ 36 by decide), hnv]
            refine J_callVl 72 dX9_cell_69 rfl kX9_308 mX9_failedLong rfl rfl rfl (c_X9_failedLong) (by first | decide | omega) rfl rfl (Nat.le_of_ble_eq_true rfl) (fun z40 s41 h39 => ?_)
            obtain ⟨rfl, rfl⟩ := h39
            refine J_goto 87 dX9_cell_72 rfl ?_
            refine J_lret dX9_cell_87 rfl ?_
            unfold eRCell rCell
            rcases hnc with ⟨rfl, h⟩ | ⟨rfl, h⟩ | ⟨rfl, h⟩
            · have hf : fRc σ x i l = 1 := by unfold fRc; rw [if_neg (by omega), if_pos (by omega)]
              first | (exfalso; omega) | (rw [hf]; exact ⟨by rw [if_neg (by omega), if_neg (by omega)], by rw [if_neg (by omega)]; exact (jup_jup _ _ _ _ _).symm⟩)
            · first
                | (exfalso; omega)
                | (have hf : fRc σ x i l = 3 := by { unfold fRc; rw [if_neg (by omega), if_neg (by omega), if_neg (by omega)] }
                   rw [hf]
                   exact ⟨by rw [if_neg (by omega), if_neg (by omega)], by rw [if_neg (by omega)]; exact (jup_jup _ _ _ _ _).symm⟩)
            · first
                | (exfalso; omega)
                | (have hf : fRc σ x i l = 0 := by { unfold fRc; rw [if_neg (by omega), if_neg (by omega), if_pos (by omega)] }
                   rw [hf]
                   exact ⟨by rw [if_neg (by omega), if_pos rfl]; rfl, by rw [if_neg (by omega)]⟩)
        · refine J_aload_n (i := 0) 48 dX9_cell_47 rfl rfl rfl ?_
          refine J_iconst 49 dX9_cell_48 rfl ?_
          refine J_callVl 52 dX9_cell_49 rfl kX9_308 mX9_failedLong rfl rfl rfl (c_X9_failedLong) (by first | decide | omega) rfl rfl (Nat.le_of_ble_eq_true rfl) (fun z43 s44 h42 => ?_)
          obtain ⟨rfl, rfl⟩ := h42
          refine J_lret dX9_cell_52 rfl ?_
          unfold eRCell rCell
          have hf : fRc σ x i l = 2 := by unfold fRc; rw [if_pos (by omega)]
          rw [hf]
          exact ⟨by rw [if_neg (by omega), if_neg (by omega)], by rw [if_neg (by omega)]; exact hz0.symm⟩
    · refine J_callSl 27 dX9_cell_24 rfl kX9_100 mX9_lost (c_X9_lost) (by first | decide | omega) rfl rfl (Nat.le_of_ble_eq_true rfl) (fun z46 s47 h45 => ?_)
      obtain ⟨rfl, rfl⟩ := h45
      refine J_lret dX9_cell_27 rfl ?_
      unfold eRCell rCell
      exact ⟨if_pos (by omega), if_pos (by omega)⟩
def eRCopy (σ : jS) (k i o j n : Int) : Int := if ¬ ((0 ≤ k ∧ k < 4) ∧ 0 ≤ o ∧ o < 4) then -1 else if σ 61 k < 0 ∨ σ 61 o < 0 then -10 - 1 else if ¬ σ 62 k = σ 62 o then -10 - 2 else if (i < 0 ∨ n < 0 ∨ σ 61 k < i + n) ∨ (j < 0 ∨ n < 0 ∨ σ 61 o < j + n) then -10 - 3 else n
def rCopy (σ : jS) (k i o j n : Int) : jS := if ¬ ((0 ≤ k ∧ k < 4) ∧ 0 ≤ o ∧ o < 4) then jup σ 36 0 0 else if σ 61 k < 0 ∨ σ 61 o < 0 then jup σ 36 0 1 else if ¬ σ 62 k = σ 62 o then jup σ 36 0 2 else if (i < 0 ∨ n < 0 ∨ σ 61 k < i + n) ∨ (j < 0 ∨ n < 0 ∨ σ 61 o < j + n) then jup σ 36 0 3 else jup (jset (jset σ 64 (rngN (σ 64) (fun x => σ 63 (60 * k + i + x)) 0 n)) 63 (rngN (σ 63) (fun x => σ 63 (60 * k + i + x)) (60 * o + j) n)) 36 0 0
set_option maxHeartbeats 4000000 in
theorem l_X9_copyB (hx : 0 ≤ x ∧ x < 4) (hy : 0 ≤ y ∧ y < 4) (hn : 0 ≤ n ∧ n ≤ 60) (hi0 : 0 ≤ i ∧ i + n ≤ 60) (hj : 0 ≤ j ∧ j + n ≤ 60) {f : Int → Int} {F : Int → jS → Prop} (hf : ∀ e, 0 ≤ e → e < n → σ 64 e = f e) (hK : F n (jup (jset σ 63 (rngN (σ 63) f (60 * y + j) n)) 36 0 0)) : ∀ (k q : Nat) (d : Int) (τ : jS), q + k = n.toNat → d = q → τ = jset σ 63 (rngN (σ 63) f (60 * y + j) d) → J P 3 (RX9, cX9_copy, 7, some .int) 144 [some (vr P 36), some (vi x), some (vi i), some (vi y), some (vi j), some (vi n), some (vi d)] [] τ (qi F) := by
  intro k
  induction k with
  | zero =>
    intro q d τ hi hd hr
    have e : d = n := by omega
    refine J_iload 146 dX9_copy_144 rfl rfl ?_
    refine J_iload 148 dX9_copy_146 rfl rfl ?_
    refine J_icmp_ge 179 151 dX9_copy_148 rfl rfl (fun c1 => ?_) (fun c1 => ?_)
    · refine J_aload_n (i := 0) 180 dX9_copy_179 rfl rfl rfl ?_
      refine J_iload 182 dX9_copy_180 rfl rfl ?_
      refine J_callVi 185 dX9_copy_182 rfl kX9_150 mX9_refused rfl rfl rfl (c_X9_refused) (by first | decide | omega) rfl rfl (Nat.le_of_ble_eq_true rfl) (fun z3 s4 h2 => ?_)
      obtain ⟨rfl, rfl⟩ := h2
      refine J_iret dX9_copy_185 rfl ?_
      rw [hr, e]
      exact hK
    · exfalso; omega
  | succ k ih =>
    intro q d τ hi hd hr
    have e4 : τ 64 d = f d := by rw [hr]; exact hf d (by omega) (by omega)
    refine J_iload 146 dX9_copy_144 rfl rfl ?_
    refine J_iload 148 dX9_copy_146 rfl rfl ?_
    refine J_icmp_ge 179 151 dX9_copy_148 rfl rfl (fun c1 => ?_) (fun c1 => ?_)
    · exfalso; omega
    · refine J_aload_n (i := 0) 152 dX9_copy_151 rfl rfl rfl ?_
      refine J_getR 155 dX9_copy_152 rfl fX9_88 rfl rfl ?_
      refine J_bipush 157 dX9_copy_155 rfl (by decide) ?_
      refine J_iload_n (i := 3) 158 dX9_copy_157 rfl rfl rfl ?_
      refine J_imul 159 dX9_copy_158 rfl ?_
      refine J_iload 161 dX9_copy_159 rfl rfl ?_
      refine J_iadd 162 dX9_copy_161 rfl ?_
      refine J_iload 164 dX9_copy_162 rfl rfl ?_
      refine J_iadd 165 dX9_copy_164 rfl ?_
      refine J_aload_n (i := 0) 166 dX9_copy_165 rfl rfl rfl ?_
      refine J_getR 169 dX9_copy_166 rfl fX9_91 rfl rfl ?_
      refine J_iload 171 dX9_copy_169 rfl rfl ?_
      refine J_iald (N := 60) (lo := (-2147483648)) (hi := 2147483647) 172 dX9_copy_171 rfl rfl rfl rfl (fun b2 b3 => ?_)
      refine J_iast (N := 240) (lo := (-2147483648)) (hi := 2147483647) 173 dX9_copy_172 rfl rfl rfl rfl ?_
      refine J_iinc 176 dX9_copy_173 rfl (by decide) rfl ?_
      refine J_goto 144 dX9_copy_176 rfl ?_
      refine ih (q + 1) _ _ (by omega) (by omega) ?_
      rw [e4, hr]
      exact rng_up rfl (by omega) rfl
set_option maxHeartbeats 4000000 in
theorem l_X9_copyA (hx : 0 ≤ x ∧ x < 4) (hy : 0 ≤ y ∧ y < 4) (hn : 0 ≤ n ∧ n ≤ 60) (hi0 : 0 ≤ i ∧ i + n ≤ 60) (hj : 0 ≤ j ∧ j + n ≤ 60) {F : Int → jS → Prop} (hK : F n (jup (jset (jset σ 64 (rngN (σ 64) (fun e => σ 63 (60 * x + i + e)) 0 n)) 63 (rngN (σ 63) (fun e => σ 63 (60 * x + i + e)) (60 * y + j) n)) 36 0 0)) : ∀ (k q : Nat) (d : Int) (τ : jS), q + k = n.toNat → d = q → τ = jset σ 64 (rngN (σ 64) (fun e => σ 63 (60 * x + i + e)) 0 d) → J P 3 (RX9, cX9_copy, 7, some .int) 107 [some (vr P 36), some (vi x), some (vi i), some (vi y), some (vi j), some (vi n), some (vi d)] [] τ (qi F) := by
  intro k
  induction k with
  | zero =>
    intro q d τ hi hd hr
    have e : d = n := by omega
    refine J_iload 109 dX9_copy_107 rfl rfl ?_
    refine J_iload 111 dX9_copy_109 rfl rfl ?_
    refine J_icmp_ge 141 114 dX9_copy_111 rfl rfl (fun c1 => ?_) (fun c1 => ?_)
    · refine J_iconst 142 dX9_copy_141 rfl ?_
      refine J_istore 144 dX9_copy_142 rfl (by decide) ?_
      rw [hr, e]
      refine l_X9_copyB hx hy hn hi0 hj (fun e h1 h2 => ?_) hK _ 0 _ _ (Nat.zero_add _) rfl (rng_0 _ _ _ _).symm
      show rngN (σ 64) (fun e => σ 63 (60 * x + i + e)) 0 n e = _
      unfold rngN
      rw [if_pos (by omega), Int.sub_zero]
    · exfalso; omega
  | succ k ih =>
    intro q d τ hi hd hr
    have e4 : τ 63 (60 * x + i + d) = σ 63 (60 * x + i + d) := by rw [hr]; rfl
    refine J_iload 109 dX9_copy_107 rfl rfl ?_
    refine J_iload 111 dX9_copy_109 rfl rfl ?_
    refine J_icmp_ge 141 114 dX9_copy_111 rfl rfl (fun c1 => ?_) (fun c1 => ?_)
    · exfalso; omega
    · refine J_aload_n (i := 0) 115 dX9_copy_114 rfl rfl rfl ?_
      refine J_getR 118 dX9_copy_115 rfl fX9_91 rfl rfl ?_
      refine J_iload 120 dX9_copy_118 rfl rfl ?_
      refine J_aload_n (i := 0) 121 dX9_copy_120 rfl rfl rfl ?_
      refine J_getR 124 dX9_copy_121 rfl fX9_88 rfl rfl ?_
      refine J_bipush 126 dX9_copy_124 rfl (by decide) ?_
      refine J_iload_n (i := 1) 127 dX9_copy_126 rfl rfl rfl ?_
      refine J_imul 128 dX9_copy_127 rfl ?_
      refine J_iload_n (i := 2) 129 dX9_copy_128 rfl rfl rfl ?_
      refine J_iadd 130 dX9_copy_129 rfl ?_
      refine J_iload 132 dX9_copy_130 rfl rfl ?_
      refine J_iadd 133 dX9_copy_132 rfl ?_
      refine J_iald (N := 240) (lo := (-2147483648)) (hi := 2147483647) 134 dX9_copy_133 rfl rfl rfl rfl (fun b2 b3 => ?_)
      refine J_iast (N := 60) (lo := (-2147483648)) (hi := 2147483647) 135 dX9_copy_134 rfl rfl rfl rfl ?_
      refine J_iinc 138 dX9_copy_135 rfl (by decide) rfl ?_
      refine J_goto 107 dX9_copy_138 rfl ?_
      refine ih (q + 1) _ _ (by omega) (by omega) ?_
      rw [e4, hr]
      exact rng_up (by omega) (by omega) rfl
theorem c_X9_copy (hx : inR x) (hi : inR i) (hy : inR y) (hj : inR j) (hn : inR n) : Ct P 3 yX9_copy cX9_copy 7 (some .int) [vr P 36, vi x, vi i, vi y, vi j, vi n] σ (rI (eRCopy σ x i y j n) (rCopy σ x i y j n)) := by
  refine Ct.bd (fun hB => ?_)
  have h61 : -1 ≤ σ 61 x ∧ σ 61 x ≤ 60 := hB 61 x
  have h61y : -1 ≤ σ 61 y ∧ σ 61 y ≤ 60 := hB 61 y
  refine Ct.of _ rfl rfl rfl (Nat.le_of_ble_eq_true rfl) (fun hB => ?_)
  refine J_iload_n (i := 1) 1 dX9_copy_0 rfl rfl rfl ?_
  refine J_callSi 4 dX9_copy_1 rfl kX9_146 mX9_noSheet (c_X9_noSheet) (by first | decide | omega) rfl rfl (Nat.le_of_ble_eq_true rfl) (fun z2 s3 h1 => ?_)
  obtain ⟨rfl, rfl⟩ := h1
  refine J_bif_ne 14 7 dX9_copy_4 rfl rfl (fun c4 => ?_) (fun c4 => ?_)
  · refine J_aload_n (i := 0) 15 dX9_copy_14 rfl rfl rfl ?_
    refine J_iconst 16 dX9_copy_15 rfl ?_
    refine J_callVi 19 dX9_copy_16 rfl kX9_150 mX9_refused rfl rfl rfl (c_X9_refused) (by first | decide | omega) rfl rfl (Nat.le_of_ble_eq_true rfl) (fun z6 s7 h5 => ?_)
    obtain ⟨rfl, rfl⟩ := h5
    refine J_iret dX9_copy_19 rfl ?_
    unfold eRCopy rCopy
    refine ⟨?_, ?_⟩
    · first | rfl | (rw [if_pos (by omega)]; first | done | rfl) | (rw [if_neg (by omega)]; first | done | rfl) | (rw [if_neg (by omega), if_pos (by omega)]; first | done | rfl) | (rw [if_neg (by omega), if_neg (by omega)]; first | done | rfl) | (rw [if_neg (by omega), if_neg (by omega), if_pos (by omega)]; first | done | rfl) | (rw [if_neg (by omega), if_neg (by omega), if_neg (by omega)]; first | done | rfl) | (rw [if_neg (by omega), if_neg (by omega), if_neg (by omega), if_pos (by omega)]; first | done | rfl) | (rw [if_neg (by omega), if_neg (by omega), if_neg (by omega), if_neg (by omega)]; first | done | rfl) | (rw [if_neg (by omega), if_neg (by omega), if_neg (by omega), if_neg (by omega), if_pos (by omega)]; first | done | rfl) | (rw [if_neg (by omega), if_neg (by omega), if_neg (by omega), if_neg (by omega), if_neg (by omega)]; first | done | rfl)
    · first | rfl | (rw [if_pos (by omega)]; first | done | rfl) | (rw [if_neg (by omega)]; first | done | rfl) | (rw [if_neg (by omega), if_pos (by omega)]; first | done | rfl) | (rw [if_neg (by omega), if_neg (by omega)]; first | done | rfl) | (rw [if_neg (by omega), if_neg (by omega), if_pos (by omega)]; first | done | rfl) | (rw [if_neg (by omega), if_neg (by omega), if_neg (by omega)]; first | done | rfl) | (rw [if_neg (by omega), if_neg (by omega), if_neg (by omega), if_pos (by omega)]; first | done | rfl) | (rw [if_neg (by omega), if_neg (by omega), if_neg (by omega), if_neg (by omega)]; first | done | rfl) | (rw [if_neg (by omega), if_neg (by omega), if_neg (by omega), if_neg (by omega), if_pos (by omega)]; first | done | rfl) | (rw [if_neg (by omega), if_neg (by omega), if_neg (by omega), if_neg (by omega), if_neg (by omega)]; first | done | rfl)
  · refine J_iload_n (i := 3) 8 dX9_copy_7 rfl rfl rfl ?_
    refine J_callSi 11 dX9_copy_8 rfl kX9_146 mX9_noSheet (c_X9_noSheet) (by first | decide | omega) rfl rfl (Nat.le_of_ble_eq_true rfl) (fun z9 s10 h8 => ?_)
    obtain ⟨rfl, rfl⟩ := h8
    refine J_bif_eq 20 14 dX9_copy_11 rfl rfl (fun c11 => ?_) (fun c11 => ?_)
    · refine J_aload_n (i := 0) 21 dX9_copy_20 rfl rfl rfl ?_
      refine J_getR 24 dX9_copy_21 rfl fX9_82 rfl rfl ?_
      refine J_iload_n (i := 1) 25 dX9_copy_24 rfl rfl rfl ?_
      refine J_iald (N := 4) (lo := (-1)) (hi := 60) 26 dX9_copy_25 rfl rfl rfl rfl (fun b12 b13 => ?_)
      refine J_if_lt 38 29 dX9_copy_26 rfl rfl (fun c14 => ?_) (fun c14 => ?_)
      · refine J_aload_n (i := 0) 39 dX9_copy_38 rfl rfl rfl ?_
        refine J_iconst 40 dX9_copy_39 rfl ?_
        refine J_callVi 43 dX9_copy_40 rfl kX9_138 mX9_failed rfl rfl rfl (c_X9_failed) (by first | decide | omega) rfl rfl (Nat.le_of_ble_eq_true rfl) (fun z16 s17 h15 => ?_)
        obtain ⟨rfl, rfl⟩ := h15
        refine J_iret dX9_copy_43 rfl ?_
        unfold eRCopy rCopy
        refine ⟨?_, ?_⟩
        · first | rfl | (rw [if_pos (by omega)]; first | done | rfl) | (rw [if_neg (by omega)]; first | done | rfl) | (rw [if_neg (by omega), if_pos (by omega)]; first | done | rfl) | (rw [if_neg (by omega), if_neg (by omega)]; first | done | rfl) | (rw [if_neg (by omega), if_neg (by omega), if_pos (by omega)]; first | done | rfl) | (rw [if_neg (by omega), if_neg (by omega), if_neg (by omega)]; first | done | rfl) | (rw [if_neg (by omega), if_neg (by omega), if_neg (by omega), if_pos (by omega)]; first | done | rfl) | (rw [if_neg (by omega), if_neg (by omega), if_neg (by omega), if_neg (by omega)]; first | done | rfl) | (rw [if_neg (by omega), if_neg (by omega), if_neg (by omega), if_neg (by omega), if_pos (by omega)]; first | done | rfl) | (rw [if_neg (by omega), if_neg (by omega), if_neg (by omega), if_neg (by omega), if_neg (by omega)]; first | done | rfl)
        · first | rfl | (rw [if_pos (by omega)]; first | done | rfl) | (rw [if_neg (by omega)]; first | done | rfl) | (rw [if_neg (by omega), if_pos (by omega)]; first | done | rfl) | (rw [if_neg (by omega), if_neg (by omega)]; first | done | rfl) | (rw [if_neg (by omega), if_neg (by omega), if_pos (by omega)]; first | done | rfl) | (rw [if_neg (by omega), if_neg (by omega), if_neg (by omega)]; first | done | rfl) | (rw [if_neg (by omega), if_neg (by omega), if_neg (by omega), if_pos (by omega)]; first | done | rfl) | (rw [if_neg (by omega), if_neg (by omega), if_neg (by omega), if_neg (by omega)]; first | done | rfl) | (rw [if_neg (by omega), if_neg (by omega), if_neg (by omega), if_neg (by omega), if_pos (by omega)]; first | done | rfl) | (rw [if_neg (by omega), if_neg (by omega), if_neg (by omega), if_neg (by omega), if_neg (by omega)]; first | done | rfl)
      · refine J_aload_n (i := 0) 30 dX9_copy_29 rfl rfl rfl ?_
        refine J_getR 33 dX9_copy_30 rfl fX9_82 rfl rfl ?_
        refine J_iload_n (i := 3) 34 dX9_copy_33 rfl rfl rfl ?_
        refine J_iald (N := 4) (lo := (-1)) (hi := 60) 35 dX9_copy_34 rfl rfl rfl rfl (fun b18 b19 => ?_)
        refine J_if_ge 44 38 dX9_copy_35 rfl rfl (fun c20 => ?_) (fun c20 => ?_)
        · refine J_aload_n (i := 0) 45 dX9_copy_44 rfl rfl rfl ?_
          refine J_getR 48 dX9_copy_45 rfl fX9_85 rfl rfl ?_
          refine J_iload_n (i := 1) 49 dX9_copy_48 rfl rfl rfl ?_
          refine J_iald (N := 4) (lo := 0) (hi := 2) 50 dX9_copy_49 rfl rfl rfl rfl (fun b21 b22 => ?_)
          refine J_aload_n (i := 0) 51 dX9_copy_50 rfl rfl rfl ?_
          refine J_getR 54 dX9_copy_51 rfl fX9_85 rfl rfl ?_
          refine J_iload_n (i := 3) 55 dX9_copy_54 rfl rfl rfl ?_
          refine J_iald (N := 4) (lo := 0) (hi := 2) 56 dX9_copy_55 rfl rfl rfl rfl (fun b23 b24 => ?_)
          refine J_icmp_eq 65 59 dX9_copy_56 rfl rfl (fun c25 => ?_) (fun c25 => ?_)
          · refine J_iload_n (i := 2) 66 dX9_copy_65 rfl rfl rfl ?_
            refine J_iload 68 dX9_copy_66 rfl rfl ?_
            refine J_i2l 69 dX9_copy_68 rfl ?_
            refine J_aload_n (i := 0) 70 dX9_copy_69 rfl rfl rfl ?_
            refine J_getR 73 dX9_copy_70 rfl fX9_82 rfl rfl ?_
            refine J_iload_n (i := 1) 74 dX9_copy_73 rfl rfl rfl ?_
            refine J_iald (N := 4) (lo := (-1)) (hi := 60) 75 dX9_copy_74 rfl rfl rfl rfl (fun b26 b27 => ?_)
            refine J_callSi 78 dX9_copy_75 rfl kX9_142 mX9_isBeyond (c_X9_isBeyond) (by first | decide | omega) rfl rfl (Nat.le_of_ble_eq_true rfl) (fun z29 s30 h28 => ?_)
            obtain ⟨rfl, rfl⟩ := h28
            refine J_bif_ne 98 81 dX9_copy_78 rfl rfl (fun c31 => ?_) (fun c31 => ?_)
            · refine J_aload_n (i := 0) 99 dX9_copy_98 rfl rfl rfl ?_
              refine J_iconst 100 dX9_copy_99 rfl ?_
              refine J_callVi 103 dX9_copy_100 rfl kX9_138 mX9_failed rfl rfl rfl (c_X9_failed) (by first | decide | omega) rfl rfl (Nat.le_of_ble_eq_true rfl) (fun z33 s34 h32 => ?_)
              obtain ⟨rfl, rfl⟩ := h32
              refine J_iret dX9_copy_103 rfl ?_
              unfold eRCopy rCopy
              refine ⟨?_, ?_⟩
              · first | rfl | (rw [if_pos (by omega)]; first | done | rfl) | (rw [if_neg (by omega)]; first | done | rfl) | (rw [if_neg (by omega), if_pos (by omega)]; first | done | rfl) | (rw [if_neg (by omega), if_neg (by omega)]; first | done | rfl) | (rw [if_neg (by omega), if_neg (by omega), if_pos (by omega)]; first | done | rfl) | (rw [if_neg (by omega), if_neg (by omega), if_neg (by omega)]; first | done | rfl) | (rw [if_neg (by omega), if_neg (by omega), if_neg (by omega), if_pos (by omega)]; first | done | rfl) | (rw [if_neg (by omega), if_neg (by omega), if_neg (by omega), if_neg (by omega)]; first | done | rfl) | (rw [if_neg (by omega), if_neg (by omega), if_neg (by omega), if_neg (by omega), if_pos (by omega)]; first | done | rfl) | (rw [if_neg (by omega), if_neg (by omega), if_neg (by omega), if_neg (by omega), if_neg (by omega)]; first | done | rfl)
              · first | rfl | (rw [if_pos (by omega)]; first | done | rfl) | (rw [if_neg (by omega)]; first | done | rfl) | (rw [if_neg (by omega), if_pos (by omega)]; first | done | rfl) | (rw [if_neg (by omega), if_neg (by omega)]; first | done | rfl) | (rw [if_neg (by omega), if_neg (by omega), if_pos (by omega)]; first | done | rfl) | (rw [if_neg (by omega), if_neg (by omega), if_neg (by omega)]; first | done | rfl) | (rw [if_neg (by omega), if_neg (by omega), if_neg (by omega), if_pos (by omega)]; first | done | rfl) | (rw [if_neg (by omega), if_neg (by omega), if_neg (by omega), if_neg (by omega)]; first | done | rfl) | (rw [if_neg (by omega), if_neg (by omega), if_neg (by omega), if_neg (by omega), if_pos (by omega)]; first | done | rfl) | (rw [if_neg (by omega), if_neg (by omega), if_neg (by omega), if_neg (by omega), if_neg (by omega)]; first | done | rfl)
            · refine J_iload 83 dX9_copy_81 rfl rfl ?_
              refine J_iload 85 dX9_copy_83 rfl rfl ?_
              refine J_i2l 86 dX9_copy_85 rfl ?_
              refine J_aload_n (i := 0) 87 dX9_copy_86 rfl rfl rfl ?_
              refine J_getR 90 dX9_copy_87 rfl fX9_82 rfl rfl ?_
              refine J_iload_n (i := 3) 91 dX9_copy_90 rfl rfl rfl ?_
              refine J_iald (N := 4) (lo := (-1)) (hi := 60) 92 dX9_copy_91 rfl rfl rfl rfl (fun b35 b36 => ?_)
              refine J_callSi 95 dX9_copy_92 rfl kX9_142 mX9_isBeyond (c_X9_isBeyond) (by first | decide | omega) rfl rfl (Nat.le_of_ble_eq_true rfl) (fun z38 s39 h37 => ?_)
              obtain ⟨rfl, rfl⟩ := h37
              refine J_bif_eq 104 98 dX9_copy_95 rfl rfl (fun c40 => ?_) (fun c40 => ?_)
              · refine J_iconst 105 dX9_copy_104 rfl ?_
                refine J_istore 107 dX9_copy_105 rfl (by decide) ?_
                refine l_X9_copyA (x := x) (y := y) (i := i) (j := j) (n := n) (by omega) (by omega) (by omega) (by omega) (by omega) ?_ _ 0 _ _ (Nat.zero_add _) rfl (rng_0 _ _ _ _).symm
                unfold eRCopy rCopy
                exact ⟨by rw [if_neg (by omega), if_neg (by omega), if_neg (by omega), if_neg (by omega)], by rw [if_neg (by omega), if_neg (by omega), if_neg (by omega), if_neg (by omega)]⟩
              · refine J_aload_n (i := 0) 99 dX9_copy_98 rfl rfl rfl ?_
                refine J_iconst 100 dX9_copy_99 rfl ?_
                refine J_callVi 103 dX9_copy_100 rfl kX9_138 mX9_failed rfl rfl rfl (c_X9_failed) (by first | decide | omega) rfl rfl (Nat.le_of_ble_eq_true rfl) (fun z42 s43 h41 => ?_)
                obtain ⟨rfl, rfl⟩ := h41
                refine J_iret dX9_copy_103 rfl ?_
                unfold eRCopy rCopy
                refine ⟨?_, ?_⟩
                · first | rfl | (rw [if_pos (by omega)]; first | done | rfl) | (rw [if_neg (by omega)]; first | done | rfl) | (rw [if_neg (by omega), if_pos (by omega)]; first | done | rfl) | (rw [if_neg (by omega), if_neg (by omega)]; first | done | rfl) | (rw [if_neg (by omega), if_neg (by omega), if_pos (by omega)]; first | done | rfl) | (rw [if_neg (by omega), if_neg (by omega), if_neg (by omega)]; first | done | rfl) | (rw [if_neg (by omega), if_neg (by omega), if_neg (by omega), if_pos (by omega)]; first | done | rfl) | (rw [if_neg (by omega), if_neg (by omega), if_neg (by omega), if_neg (by omega)]; first | done | rfl) | (rw [if_neg (by omega), if_neg (by omega), if_neg (by omega), if_neg (by omega), if_pos (by omega)]; first | done | rfl) | (rw [if_neg (by omega), if_neg (by omega), if_neg (by omega), if_neg (by omega), if_neg (by omega)]; first | done | rfl)
                · first | rfl | (rw [if_pos (by omega)]; first | done | rfl) | (rw [if_neg (by omega)]; first | done | rfl) | (rw [if_neg (by omega), if_pos (by omega)]; first | done | rfl) | (rw [if_neg (by omega), if_neg (by omega)]; first | done | rfl) | (rw [if_neg (by omega), if_neg (by omega), if_pos (by omega)]; first | done | rfl) | (rw [if_neg (by omega), if_neg (by omega), if_neg (by omega)]; first | done | rfl) | (rw [if_neg (by omega), if_neg (by omega), if_neg (by omega), if_pos (by omega)]; first | done | rfl) | (rw [if_neg (by omega), if_neg (by omega), if_neg (by omega), if_neg (by omega)]; first | done | rfl) | (rw [if_neg (by omega), if_neg (by omega), if_neg (by omega), if_neg (by omega), if_pos (by omega)]; first | done | rfl) | (rw [if_neg (by omega), if_neg (by omega), if_neg (by omega), if_neg (by omega), if_neg (by omega)]; first | done | rfl)
          · refine J_aload_n (i := 0) 60 dX9_copy_59 rfl rfl rfl ?_
            refine J_iconst 61 dX9_copy_60 rfl ?_
            refine J_callVi 64 dX9_copy_61 rfl kX9_138 mX9_failed rfl rfl rfl (c_X9_failed) (by first | decide | omega) rfl rfl (Nat.le_of_ble_eq_true rfl) (fun z45 s46 h44 => ?_)
            obtain ⟨rfl, rfl⟩ := h44
            refine J_iret dX9_copy_64 rfl ?_
            unfold eRCopy rCopy
            refine ⟨?_, ?_⟩
            · first | rfl | (rw [if_pos (by omega)]; first | done | rfl) | (rw [if_neg (by omega)]; first | done | rfl) | (rw [if_neg (by omega), if_pos (by omega)]; first | done | rfl) | (rw [if_neg (by omega), if_neg (by omega)]; first | done | rfl) | (rw [if_neg (by omega), if_neg (by omega), if_pos (by omega)]; first | done | rfl) | (rw [if_neg (by omega), if_neg (by omega), if_neg (by omega)]; first | done | rfl) | (rw [if_neg (by omega), if_neg (by omega), if_neg (by omega), if_pos (by omega)]; first | done | rfl) | (rw [if_neg (by omega), if_neg (by omega), if_neg (by omega), if_neg (by omega)]; first | done | rfl) | (rw [if_neg (by omega), if_neg (by omega), if_neg (by omega), if_neg (by omega), if_pos (by omega)]; first | done | rfl) | (rw [if_neg (by omega), if_neg (by omega), if_neg (by omega), if_neg (by omega), if_neg (by omega)]; first | done | rfl)
            · first | rfl | (rw [if_pos (by omega)]; first | done | rfl) | (rw [if_neg (by omega)]; first | done | rfl) | (rw [if_neg (by omega), if_pos (by omega)]; first | done | rfl) | (rw [if_neg (by omega), if_neg (by omega)]; first | done | rfl) | (rw [if_neg (by omega), if_neg (by omega), if_pos (by omega)]; first | done | rfl) | (rw [if_neg (by omega), if_neg (by omega), if_neg (by omega)]; first | done | rfl) | (rw [if_neg (by omega), if_neg (by omega), if_neg (by omega), if_pos (by omega)]; first | done | rfl) | (rw [if_neg (by omega), if_neg (by omega), if_neg (by omega), if_neg (by omega)]; first | done | rfl) | (rw [if_neg (by omega), if_neg (by omega), if_neg (by omega), if_neg (by omega), if_pos (by omega)]; first | done | rfl) | (rw [if_neg (by omega), if_neg (by omega), if_neg (by omega), if_neg (by omega), if_neg (by omega)]; first | done | rfl)
        · refine J_aload_n (i := 0) 39 dX9_copy_38 rfl rfl rfl ?_
          refine J_iconst 40 dX9_copy_39 rfl ?_
          refine J_callVi 43 dX9_copy_40 rfl kX9_138 mX9_failed rfl rfl rfl (c_X9_failed) (by first | decide | omega) rfl rfl (Nat.le_of_ble_eq_true rfl) (fun z48 s49 h47 => ?_)
          obtain ⟨rfl, rfl⟩ := h47
          refine J_iret dX9_copy_43 rfl ?_
          unfold eRCopy rCopy
          refine ⟨?_, ?_⟩
          · first | rfl | (rw [if_pos (by omega)]; first | done | rfl) | (rw [if_neg (by omega)]; first | done | rfl) | (rw [if_neg (by omega), if_pos (by omega)]; first | done | rfl) | (rw [if_neg (by omega), if_neg (by omega)]; first | done | rfl) | (rw [if_neg (by omega), if_neg (by omega), if_pos (by omega)]; first | done | rfl) | (rw [if_neg (by omega), if_neg (by omega), if_neg (by omega)]; first | done | rfl) | (rw [if_neg (by omega), if_neg (by omega), if_neg (by omega), if_pos (by omega)]; first | done | rfl) | (rw [if_neg (by omega), if_neg (by omega), if_neg (by omega), if_neg (by omega)]; first | done | rfl) | (rw [if_neg (by omega), if_neg (by omega), if_neg (by omega), if_neg (by omega), if_pos (by omega)]; first | done | rfl) | (rw [if_neg (by omega), if_neg (by omega), if_neg (by omega), if_neg (by omega), if_neg (by omega)]; first | done | rfl)
          · first | rfl | (rw [if_pos (by omega)]; first | done | rfl) | (rw [if_neg (by omega)]; first | done | rfl) | (rw [if_neg (by omega), if_pos (by omega)]; first | done | rfl) | (rw [if_neg (by omega), if_neg (by omega)]; first | done | rfl) | (rw [if_neg (by omega), if_neg (by omega), if_pos (by omega)]; first | done | rfl) | (rw [if_neg (by omega), if_neg (by omega), if_neg (by omega)]; first | done | rfl) | (rw [if_neg (by omega), if_neg (by omega), if_neg (by omega), if_pos (by omega)]; first | done | rfl) | (rw [if_neg (by omega), if_neg (by omega), if_neg (by omega), if_neg (by omega)]; first | done | rfl) | (rw [if_neg (by omega), if_neg (by omega), if_neg (by omega), if_neg (by omega), if_pos (by omega)]; first | done | rfl) | (rw [if_neg (by omega), if_neg (by omega), if_neg (by omega), if_neg (by omega), if_neg (by omega)]; first | done | rfl)
    · refine J_aload_n (i := 0) 15 dX9_copy_14 rfl rfl rfl ?_
      refine J_iconst 16 dX9_copy_15 rfl ?_
      refine J_callVi 19 dX9_copy_16 rfl kX9_150 mX9_refused rfl rfl rfl (c_X9_refused) (by first | decide | omega) rfl rfl (Nat.le_of_ble_eq_true rfl) (fun z51 s52 h50 => ?_)
      obtain ⟨rfl, rfl⟩ := h50
      refine J_iret dX9_copy_19 rfl ?_
      unfold eRCopy rCopy
      refine ⟨?_, ?_⟩
      · first | rfl | (rw [if_pos (by omega)]; first | done | rfl) | (rw [if_neg (by omega)]; first | done | rfl) | (rw [if_neg (by omega), if_pos (by omega)]; first | done | rfl) | (rw [if_neg (by omega), if_neg (by omega)]; first | done | rfl) | (rw [if_neg (by omega), if_neg (by omega), if_pos (by omega)]; first | done | rfl) | (rw [if_neg (by omega), if_neg (by omega), if_neg (by omega)]; first | done | rfl) | (rw [if_neg (by omega), if_neg (by omega), if_neg (by omega), if_pos (by omega)]; first | done | rfl) | (rw [if_neg (by omega), if_neg (by omega), if_neg (by omega), if_neg (by omega)]; first | done | rfl) | (rw [if_neg (by omega), if_neg (by omega), if_neg (by omega), if_neg (by omega), if_pos (by omega)]; first | done | rfl) | (rw [if_neg (by omega), if_neg (by omega), if_neg (by omega), if_neg (by omega), if_neg (by omega)]; first | done | rfl)
      · first | rfl | (rw [if_pos (by omega)]; first | done | rfl) | (rw [if_neg (by omega)]; first | done | rfl) | (rw [if_neg (by omega), if_pos (by omega)]; first | done | rfl) | (rw [if_neg (by omega), if_neg (by omega)]; first | done | rfl) | (rw [if_neg (by omega), if_neg (by omega), if_pos (by omega)]; first | done | rfl) | (rw [if_neg (by omega), if_neg (by omega), if_neg (by omega)]; first | done | rfl) | (rw [if_neg (by omega), if_neg (by omega), if_neg (by omega), if_pos (by omega)]; first | done | rfl) | (rw [if_neg (by omega), if_neg (by omega), if_neg (by omega), if_neg (by omega)]; first | done | rfl) | (rw [if_neg (by omega), if_neg (by omega), if_neg (by omega), if_neg (by omega), if_pos (by omega)]; first | done | rfl) | (rw [if_neg (by omega), if_neg (by omega), if_neg (by omega), if_neg (by omega), if_neg (by omega)]; first | done | rfl)
end

