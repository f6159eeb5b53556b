/-! ===== the class's sheets ===== -/
def sc (k : Int) : Nat := 28 + 2 * k.toNat
theorem sc4 {x : Int} {w : Nat} (hw : w = sc x) (h : 0 ≤ x ∧ x < 4) : (x = 0 ∧ w = 28) ∨ (x = 1 ∧ w = 30) ∨ (x = 2 ∧ w = 32) ∨ (x = 3 ∧ w = 34) := by unfold sc at hw; omega
section
variable {P : jP} {w o : Nat} {a b c d g x y z n s i j k l : Int} {σ τ v : jS}
def aSheet (k l n : Int) : Int := if ¬ (0 ≤ k ∧ k < 4) then -1 else if ¬ ((0 ≤ l ∧ l ≤ 2) ∧ n ≤ 60) then -2 else if n < 0 then -10 - 4 else 1
def sSheet (σ : jS) (w : Nat) (k l n : Int) : jS := if ¬ (0 ≤ k ∧ k < 4) then jup σ 0 10 0 else if ¬ ((0 ≤ l ∧ l ≤ 2) ∧ n ≤ 60) then jup σ 0 10 0 else if n < 0 then jup σ 0 10 4 else jset (jup (jup (jup σ 0 10 0) w 1 l) w 2 n) (w + 1) (fun _ => 0)
set_option maxHeartbeats 4000000 in
theorem c_X8_sheet (hw : w = sc x) (hx : inR x) (hl : inR l) (hn : inR n) : Ct P 2 yX8_sheet cX8_sheet 4 (some .int) [vr P 0, vi x, vi l, vi n] σ (rI (aSheet x l n) (sSheet σ w x l n)) := by
  unfold aSheet sSheet
  by_cases hx4 : 0 ≤ x ∧ x < 4
  · rcases sc4 hw hx4 with ⟨rfl, rfl⟩ | ⟨rfl, rfl⟩ | ⟨rfl, rfl⟩ | ⟨rfl, rfl⟩ <;> (
      refine Ct.of _ rfl rfl rfl (Nat.le_of_ble_eq_true rfl) (fun hB => ?_)
      refine J_aload_n (i := 0) 1 dX8_sheet_0 rfl rfl rfl ?_
      refine J_iconst 2 dX8_sheet_1 rfl ?_
      refine J_putI (jz := 10) (lo := 0) (hi := 4) 5 dX8_sheet_2 rfl gX8_74 rfl rfl rfl rfl ?_
      refine J_iload_n (i := 1) 6 dX8_sheet_5 rfl rfl rfl ?_
      refine J_callSi 9 dX8_sheet_6 rfl kX8_77 mX8_isSheet (c_X8_isSheet) (by first | decide | omega) rfl rfl (Nat.le_of_ble_eq_true rfl) (fun z2 s3 h1 => ?_)
      obtain ⟨rfl, rfl⟩ := h1
      refine J_bif_ne 14 12 dX8_sheet_9 rfl rfl (fun c4 => ?_) (fun c4 => ?_)
      · refine J_iload_n (i := 2) 15 dX8_sheet_14 rfl rfl rfl ?_
        refine J_callSi 18 dX8_sheet_15 rfl kX8_81 mX8_isLane (c_X8_isLane) (by first | decide | omega) rfl rfl (Nat.le_of_ble_eq_true rfl) (fun z6 s7 h5 => ?_)
        obtain ⟨rfl, rfl⟩ := h5
        refine J_bif_eq 27 21 dX8_sheet_18 rfl rfl (fun c8 => ?_) (fun c8 => ?_)
        · refine J_bipush 29 dX8_sheet_27 rfl (by decide) ?_
          refine J_iret dX8_sheet_29 rfl ?_
          refine ⟨?_, ?_⟩
          · first | rfl | (rw [if_pos (by omega)]; done) | (rw [if_neg (by omega)]; done) | (rw [if_neg (by omega), if_pos (by omega)]; done) | (rw [if_neg (by omega), if_neg (by omega)]; done) | (rw [if_neg (by omega), if_neg (by omega), if_pos (by omega)]; done) | (rw [if_neg (by omega), if_neg (by omega), if_neg (by omega)]; done) | (rw [if_neg (by omega), if_neg (by omega), if_neg (by omega), if_pos (by omega)]; done) | (rw [if_neg (by omega), if_neg (by omega), if_neg (by omega), if_neg (by omega)]; done)
          · first | (rw [if_neg (by omega), if_pos (by omega)]; done) | (rw [if_neg (by omega), if_neg (by omega), if_pos (by omega), jup_jup]; done) | (rw [if_neg (by omega), if_neg (by omega), if_neg (by omega)]; done)
        · refine J_iload_n (i := 3) 22 dX8_sheet_21 rfl rfl rfl ?_
          refine J_bipush 24 dX8_sheet_22 rfl (by decide) ?_
          refine J_icmp_le 30 27 dX8_sheet_24 rfl rfl (fun c9 => ?_) (fun c9 => ?_)
          · refine J_iload_n (i := 3) 31 dX8_sheet_30 rfl rfl rfl ?_
            refine J_if_ge 40 34 dX8_sheet_31 rfl rfl (fun c10 => ?_) (fun c10 => ?_)
            · refine J_aload_n (i := 0) 41 dX8_sheet_40 rfl rfl rfl ?_
              refine J_getR 44 dX8_sheet_41 rfl fX8_66 rfl rfl ?_
              refine J_iload_n (i := 1) 45 dX8_sheet_44 rfl rfl rfl ?_
              refine J_aald 46 dX8_sheet_45 rfl ?_
              try simp only [Int.reduceToNat, Nat.reduceMul, Nat.reduceAdd]
              refine J_iload_n (i := 2) 47 dX8_sheet_46 rfl rfl rfl ?_
              refine J_iload_n (i := 3) 48 dX8_sheet_47 rfl rfl rfl ?_
              refine J_callVv 51 dX8_sheet_48 rfl kX8_256 mX5_renew rfl rfl rfl (c_X5_renew) (by first | decide | omega) rfl rfl (Nat.le_of_ble_eq_true rfl) (fun s13 h11 => ?_)
              obtain rfl := h11
              refine J_iconst 52 dX8_sheet_51 rfl ?_
              refine J_iret dX8_sheet_52 rfl ?_
              refine ⟨?_, ?_⟩
              · first | rfl | (rw [if_pos (by omega)]; done) | (rw [if_neg (by omega)]; done) | (rw [if_neg (by omega), if_pos (by omega)]; done) | (rw [if_neg (by omega), if_neg (by omega)]; done) | (rw [if_neg (by omega), if_neg (by omega), if_pos (by omega)]; done) | (rw [if_neg (by omega), if_neg (by omega), if_neg (by omega)]; done) | (rw [if_neg (by omega), if_neg (by omega), if_neg (by omega), if_pos (by omega)]; done) | (rw [if_neg (by omega), if_neg (by omega), if_neg (by omega), if_neg (by omega)]; done)
              · first | (rw [if_neg (by omega), if_pos (by omega)]; done) | (rw [if_neg (by omega), if_neg (by omega), if_pos (by omega), jup_jup]; done) | (rw [if_neg (by omega), if_neg (by omega), if_neg (by omega)]; done)
            · refine J_aload_n (i := 0) 35 dX8_sheet_34 rfl rfl rfl ?_
              refine J_iconst 36 dX8_sheet_35 rfl ?_
              refine J_callVi 39 dX8_sheet_36 rfl kX8_88 mX8_faulted rfl rfl rfl (c_X8_faulted) (by first | decide | omega) rfl rfl (Nat.le_of_ble_eq_true rfl) (fun z15 s16 h14 => ?_)
              obtain ⟨rfl, rfl⟩ := h14
              refine J_iret dX8_sheet_39 rfl ?_
              refine ⟨?_, ?_⟩
              · first | rfl | (rw [if_pos (by omega)]; done) | (rw [if_neg (by omega)]; done) | (rw [if_neg (by omega), if_pos (by omega)]; done) | (rw [if_neg (by omega), if_neg (by omega)]; done) | (rw [if_neg (by omega), if_neg (by omega), if_pos (by omega)]; done) | (rw [if_neg (by omega), if_neg (by omega), if_neg (by omega)]; done) | (rw [if_neg (by omega), if_neg (by omega), if_neg (by omega), if_pos (by omega)]; done) | (rw [if_neg (by omega), if_neg (by omega), if_neg (by omega), if_neg (by omega)]; done)
              · first | (rw [if_neg (by omega), if_pos (by omega)]; done) | (rw [if_neg (by omega), if_neg (by omega), if_pos (by omega), jup_jup]; done) | (rw [if_neg (by omega), if_neg (by omega), if_neg (by omega)]; done)
          · refine J_bipush 29 dX8_sheet_27 rfl (by decide) ?_
            refine J_iret dX8_sheet_29 rfl ?_
            refine ⟨?_, ?_⟩
            · first | rfl | (rw [if_pos (by omega)]; done) | (rw [if_neg (by omega)]; done) | (rw [if_neg (by omega), if_pos (by omega)]; done) | (rw [if_neg (by omega), if_neg (by omega)]; done) | (rw [if_neg (by omega), if_neg (by omega), if_pos (by omega)]; done) | (rw [if_neg (by omega), if_neg (by omega), if_neg (by omega)]; done) | (rw [if_neg (by omega), if_neg (by omega), if_neg (by omega), if_pos (by omega)]; done) | (rw [if_neg (by omega), if_neg (by omega), if_neg (by omega), if_neg (by omega)]; done)
            · first | (rw [if_neg (by omega), if_pos (by omega)]; done) | (rw [if_neg (by omega), if_neg (by omega), if_pos (by omega), jup_jup]; done) | (rw [if_neg (by omega), if_neg (by omega), if_neg (by omega)]; done)
      · exfalso; omega
    )
  · skip
    refine Ct.of _ rfl rfl rfl (Nat.le_of_ble_eq_true rfl) (fun hB => ?_)
    refine J_aload_n (i := 0) 1 dX8_sheet_0 rfl rfl rfl ?_
    refine J_iconst 2 dX8_sheet_1 rfl ?_
    refine J_putI (jz := 10) (lo := 0) (hi := 4) 5 dX8_sheet_2 rfl gX8_74 rfl rfl rfl rfl ?_
    refine J_iload_n (i := 1) 6 dX8_sheet_5 rfl rfl rfl ?_
    refine J_callSi 9 dX8_sheet_6 rfl kX8_77 mX8_isSheet (c_X8_isSheet) (by first | decide | omega) rfl rfl (Nat.le_of_ble_eq_true rfl) (fun z2 s3 h1 => ?_)
    obtain ⟨rfl, rfl⟩ := h1
    refine J_bif_ne 14 12 dX8_sheet_9 rfl rfl (fun c4 => ?_) (fun c4 => ?_)
    · exfalso; omega
    · refine J_iconst 13 dX8_sheet_12 rfl ?_
      refine J_iret dX8_sheet_13 rfl ?_
      exact ⟨if_pos (by omega), if_pos (by omega)⟩
def aLose (k sl : Int) : Int := if ¬ (0 ≤ k ∧ k < 4) then -1 else if sl = -1 then 0 else 1
theorem c_X8_lose (hw : w = sc x) (hx : inR x) : Ct P 2 yX8_lose cX8_lose 3 (some .int) [vr P 0, vi x] σ (rI (aLose x (σ w 1)) (if ¬ (0 ≤ x ∧ x < 4) then σ else jup (jup σ w 1 (-1)) w 2 0)) := by
  unfold aLose
  by_cases hx4 : 0 ≤ x ∧ x < 4
  · rcases sc4 hw hx4 with ⟨rfl, rfl⟩ | ⟨rfl, rfl⟩ | ⟨rfl, rfl⟩ | ⟨rfl, rfl⟩ <;> (
      refine Ct.of _ rfl rfl rfl (Nat.le_of_ble_eq_true rfl) (fun hB => ?_)
      refine J_iload_n (i := 1) 1 dX8_lose_0 rfl rfl rfl ?_
      refine J_callSi 4 dX8_lose_1 rfl kX8_77 mX8_isSheet (c_X8_isSheet) (by first | decide | omega) rfl rfl (Nat.le_of_ble_eq_true rfl) (fun z2 s3 h1 => ?_)
      obtain ⟨rfl, rfl⟩ := h1
      refine J_bif_ne 9 7 dX8_lose_4 rfl rfl (fun c4 => ?_) (fun c4 => ?_)
      · refine J_aload_n (i := 0) 10 dX8_lose_9 rfl rfl rfl ?_
        refine J_getR 13 dX8_lose_10 rfl fX8_66 rfl rfl ?_
        refine J_iload_n (i := 1) 14 dX8_lose_13 rfl rfl rfl ?_
        refine J_aald 15 dX8_lose_14 rfl ?_
        try simp only [Int.reduceToNat, Nat.reduceMul, Nat.reduceAdd]
        refine J_callVi 18 dX8_lose_15 rfl kX8_260 mX5_hasRow rfl rfl rfl (c_X5_hasRow) (by first | decide | omega) rfl rfl (Nat.le_of_ble_eq_true rfl) (fun z6 s7 h5 => ?_)
        obtain ⟨rfl, rfl⟩ := h5
        refine J_istore_n (i := 2) 19 dX8_lose_18 rfl rfl (by decide) ?_
        refine J_aload_n (i := 0) 20 dX8_lose_19 rfl rfl rfl ?_
        refine J_getR 23 dX8_lose_20 rfl fX8_66 rfl rfl ?_
        refine J_iload_n (i := 1) 24 dX8_lose_23 rfl rfl rfl ?_
        refine J_aald 25 dX8_lose_24 rfl ?_
        try simp only [Int.reduceToNat, Nat.reduceMul, Nat.reduceAdd]
        refine J_callVv 28 dX8_lose_25 rfl kX8_263 mX5_drop rfl rfl rfl (c_X5_drop) (by first | decide | omega) rfl rfl (Nat.le_of_ble_eq_true rfl) (fun s10 h8 => ?_)
        obtain rfl := h8
        refine J_iload_n (i := 2) 29 dX8_lose_28 rfl rfl rfl ?_
        refine J_bif_eq 36 32 dX8_lose_29 rfl rfl (fun c8 => ?_) (fun c8 => ?_)
        · refine J_iconst 37 dX8_lose_36 rfl ?_
          refine J_iret dX8_lose_37 rfl ?_
          exact ⟨by rw [if_neg (by omega), if_pos (by omega)], if_neg (by omega)⟩
        · refine J_iconst 33 dX8_lose_32 rfl ?_
          refine J_goto 37 dX8_lose_33 rfl ?_
          refine J_iret dX8_lose_37 rfl ?_
          exact ⟨by rw [if_neg (by omega), if_neg (by omega)], if_neg (by omega)⟩
      · exfalso; omega
    )
  · skip
    refine Ct.of _ rfl rfl rfl (Nat.le_of_ble_eq_true rfl) (fun hB => ?_)
    refine J_iload_n (i := 1) 1 dX8_lose_0 rfl rfl rfl ?_
    refine J_callSi 4 dX8_lose_1 rfl kX8_77 mX8_isSheet (c_X8_isSheet) (by first | decide | omega) rfl rfl (Nat.le_of_ble_eq_true rfl) (fun z2 s3 h1 => ?_)
    obtain ⟨rfl, rfl⟩ := h1
    refine J_bif_ne 9 7 dX8_lose_4 rfl rfl (fun c4 => ?_) (fun c4 => ?_)
    · exfalso; omega
    · refine J_iconst 8 dX8_lose_7 rfl ?_
      refine J_iret dX8_lose_8 rfl ?_
      exact ⟨if_pos (by omega), if_pos (by omega)⟩
def aPut (k sl len i : Int) : Int := if ¬ (0 ≤ k ∧ k < 4) then -1 else if sl = -1 then -10 - 1 else if ¬ (0 ≤ i ∧ i ≤ len ∧ 0 ≤ (1 : Int) ∧ 1 ≤ len - i) then -10 - 3 else 1
def sPut (σ : jS) (w : Nat) (k i v : Int) : jS := if ¬ (0 ≤ k ∧ k < 4) then jup σ 0 10 0 else if σ w 1 = -1 then jup σ 0 10 1 else if ¬ (0 ≤ i ∧ i ≤ σ w 2 ∧ 0 ≤ (1 : Int) ∧ 1 ≤ σ w 2 - i) then jup σ 0 10 3 else jup (jup σ 0 10 0) (w + 1) i (cutM (σ w 1) v)
theorem cutM_b {l v : Int} (h : inR v) : inR (cutM l v) := by
  unfold cutM
  have h1 := Int.le_bmod (x := v) (m := 256) (by decide)
  have h2 := Int.bmod_lt (x := v) (m := 256) (by decide)
  have h3 := Int.le_bmod (x := v) (m := 65536) (by decide)
  have h4 := Int.bmod_lt (x := v) (m := 65536) (by decide)
  split
  · omega
  · split <;> omega
theorem len_b (hB : jBd σ) (h : w = 28 ∨ w = 30 ∨ w = 32 ∨ w = 34) : (-1 ≤ σ w 1 ∧ σ w 1 ≤ 2) ∧ (0 ≤ σ w 2 ∧ σ w 2 ≤ 60) ∧ ∀ j, inR (σ (w + 1) j) := by
  rcases h with rfl | rfl | rfl | rfl
  · exact ⟨hB 28 1, hB 28 2, fun j => hB 29 j⟩
  · exact ⟨hB 30 1, hB 30 2, fun j => hB 31 j⟩
  · exact ⟨hB 32 1, hB 32 2, fun j => hB 33 j⟩
  · exact ⟨hB 34 1, hB 34 2, fun j => hB 35 j⟩
set_option maxHeartbeats 4000000 in
theorem c_X8_put (hw : w = sc x) (hx : inR x) (hi : inR i) (hy : inR y) : Ct P 2 yX8_put cX8_put 5 (some .int) [vr P 0, vi x, vi i, vi y] σ (rI (aPut x (σ w 1) (σ w 2) i) (sPut σ w x i y)) := by
  refine Ct.bd (fun hB => ?_)
  unfold aPut sPut
  by_cases hx4 : 0 ≤ x ∧ x < 4
  · have hlb := len_b hB (w := w) (by unfold sc at hw; omega)
    have hct := cutM_b (l := σ w 1) hy
    rcases sc4 hw hx4 with ⟨rfl, rfl⟩ | ⟨rfl, rfl⟩ | ⟨rfl, rfl⟩ | ⟨rfl, rfl⟩ <;> (
      refine Ct.of _ rfl rfl rfl (Nat.le_of_ble_eq_true rfl) (fun hB => ?_)
      refine J_aload_n (i := 0) 1 dX8_put_0 rfl rfl rfl ?_
      refine J_iconst 2 dX8_put_1 rfl ?_
      refine J_putI (jz := 10) (lo := 0) (hi := 4) 5 dX8_put_2 rfl gX8_74 rfl rfl rfl rfl ?_
      refine J_iload_n (i := 1) 6 dX8_put_5 rfl rfl rfl ?_
      refine J_callSi 9 dX8_put_6 rfl kX8_77 mX8_isSheet (c_X8_isSheet) (by first | decide | omega) rfl rfl (Nat.le_of_ble_eq_true rfl) (fun z2 s3 h1 => ?_)
      obtain ⟨rfl, rfl⟩ := h1
      refine J_bif_ne 14 12 dX8_put_9 rfl rfl (fun c4 => ?_) (fun c4 => ?_)
      · refine J_aload_n (i := 0) 15 dX8_put_14 rfl rfl rfl ?_
        refine J_getR 18 dX8_put_15 rfl fX8_66 rfl rfl ?_
        refine J_iload_n (i := 1) 19 dX8_put_18 rfl rfl rfl ?_
        refine J_aald 20 dX8_put_19 rfl ?_
        try simp only [Int.reduceToNat, Nat.reduceMul, Nat.reduceAdd]
        refine J_astore 22 dX8_put_20 rfl (by decide) ?_
        refine J_aload 24 dX8_put_22 rfl rfl ?_
        refine J_callVi 27 dX8_put_24 rfl kX8_260 mX5_hasRow rfl rfl rfl (c_X5_hasRow) (by first | decide | omega) rfl rfl (Nat.le_of_ble_eq_true rfl) (fun z6 s7 h5 => ?_)
        obtain ⟨rfl, rfl⟩ := h5
        refine J.top (e' := b01 (¬ σ _ 1 = -1)) rfl ?_
        refine J_bif_ne 36 30 dX8_put_27 rfl rfl (fun c8 => ?_) (fun c8 => ?_)
        · refine J_aload 38 dX8_put_36 rfl rfl ?_
          refine J_iload_n (i := 2) 39 dX8_put_38 rfl rfl rfl ?_
          refine J_iconst 40 dX8_put_39 rfl ?_
          refine J_callVi 43 dX8_put_40 rfl kX8_266 mX5_hasCells rfl rfl rfl (c_X5_hasCells) (by first | decide | omega) rfl rfl (Nat.le_of_ble_eq_true rfl) (fun z10 s11 h9 => ?_)
          obtain ⟨rfl, rfl⟩ := h9
          refine J.top (e' := b01 (0 ≤ i ∧ i ≤ σ _ 2 ∧ 0 ≤ (1 : Int) ∧ 1 ≤ σ _ 2 - i)) rfl ?_
          refine J_bif_ne 52 46 dX8_put_43 rfl rfl (fun c12 => ?_) (fun c12 => ?_)
          · refine J_aload 54 dX8_put_52 rfl rfl ?_
            refine J_getR 57 dX8_put_54 rfl fX8_270 rfl rfl ?_
            refine J_iload_n (i := 2) 58 dX8_put_57 rfl rfl rfl ?_
            refine J_aload 60 dX8_put_58 rfl rfl ?_
            refine J_iload_n (i := 3) 61 dX8_put_60 rfl rfl rfl ?_
            refine J_callVi 64 dX8_put_61 rfl kX8_273 mX5_cut rfl rfl rfl (c_X5_cut) (by first | decide | omega) rfl rfl (Nat.le_of_ble_eq_true rfl) (fun z14 s15 h13 => ?_)
            obtain ⟨rfl, rfl⟩ := h13
            refine J.top (e' := cutM (σ _ 1) y) rfl ?_
            refine J_iast (N := 60) (lo := (-2147483648)) (hi := 2147483647) 65 dX8_put_64 rfl rfl rfl rfl ?_
            refine J_iconst 66 dX8_put_65 rfl ?_
            refine J_iret dX8_put_66 rfl ?_
            refine ⟨?_, ?_⟩
            · first | rfl | (rw [if_pos (by omega)]; done) | (rw [if_neg (by omega)]; done) | (rw [if_neg (by omega), if_pos (by omega)]; done) | (rw [if_neg (by omega), if_neg (by omega)]; done) | (rw [if_neg (by omega), if_neg (by omega), if_pos (by omega)]; done) | (rw [if_neg (by omega), if_neg (by omega), if_neg (by omega)]; done) | (rw [if_neg (by omega), if_neg (by omega), if_neg (by omega), if_pos (by omega)]; done) | (rw [if_neg (by omega), if_neg (by omega), if_neg (by omega), if_neg (by omega)]; done)
            · first | (rw [if_neg (by omega), if_pos (by omega), jup_jup]; done) | (rw [if_neg (by omega), if_neg (by omega), if_pos (by omega), jup_jup]; done) | (rw [if_neg (by omega), if_neg (by omega), if_neg (by omega)]; done)
          · refine J_aload_n (i := 0) 47 dX8_put_46 rfl rfl rfl ?_
            refine J_iconst 48 dX8_put_47 rfl ?_
            refine J_callVi 51 dX8_put_48 rfl kX8_88 mX8_faulted rfl rfl rfl (c_X8_faulted) (by first | decide | omega) rfl rfl (Nat.le_of_ble_eq_true rfl) (fun z17 s18 h16 => ?_)
            obtain ⟨rfl, rfl⟩ := h16
            refine J_iret dX8_put_51 rfl ?_
            refine ⟨?_, ?_⟩
            · first | rfl | (rw [if_pos (by omega)]; done) | (rw [if_neg (by omega)]; done) | (rw [if_neg (by omega), if_pos (by omega)]; done) | (rw [if_neg (by omega), if_neg (by omega)]; done) | (rw [if_neg (by omega), if_neg (by omega), if_pos (by omega)]; done) | (rw [if_neg (by omega), if_neg (by omega), if_neg (by omega)]; done) | (rw [if_neg (by omega), if_neg (by omega), if_neg (by omega), if_pos (by omega)]; done) | (rw [if_neg (by omega), if_neg (by omega), if_neg (by omega), if_neg (by omega)]; done)
            · first | (rw [if_neg (by omega), if_pos (by omega), jup_jup]; done) | (rw [if_neg (by omega), if_neg (by omega), if_pos (by omega), jup_jup]; done) | (rw [if_neg (by omega), if_neg (by omega), if_neg (by omega)]; done)
        · refine J_aload_n (i := 0) 31 dX8_put_30 rfl rfl rfl ?_
          refine J_iconst 32 dX8_put_31 rfl ?_
          refine J_callVi 35 dX8_put_32 rfl kX8_88 mX8_faulted rfl rfl rfl (c_X8_faulted) (by first | decide | omega) rfl rfl (Nat.le_of_ble_eq_true rfl) (fun z20 s21 h19 => ?_)
          obtain ⟨rfl, rfl⟩ := h19
          refine J_iret dX8_put_35 rfl ?_
          refine ⟨?_, ?_⟩
          · first | rfl | (rw [if_pos (by omega)]; done) | (rw [if_neg (by omega)]; done) | (rw [if_neg (by omega), if_pos (by omega)]; done) | (rw [if_neg (by omega), if_neg (by omega)]; done) | (rw [if_neg (by omega), if_neg (by omega), if_pos (by omega)]; done) | (rw [if_neg (by omega), if_neg (by omega), if_neg (by omega)]; done) | (rw [if_neg (by omega), if_neg (by omega), if_neg (by omega), if_pos (by omega)]; done) | (rw [if_neg (by omega), if_neg (by omega), if_neg (by omega), if_neg (by omega)]; done)
          · first | (rw [if_neg (by omega), if_pos (by omega), jup_jup]; done) | (rw [if_neg (by omega), if_neg (by omega), if_pos (by omega), jup_jup]; done) | (rw [if_neg (by omega), if_neg (by omega), if_neg (by omega)]; done)
      · exfalso; omega
    )
  · skip
    refine Ct.of _ rfl rfl rfl (Nat.le_of_ble_eq_true rfl) (fun hB => ?_)
    refine J_aload_n (i := 0) 1 dX8_put_0 rfl rfl rfl ?_
    refine J_iconst 2 dX8_put_1 rfl ?_
    refine J_putI (jz := 10) (lo := 0) (hi := 4) 5 dX8_put_2 rfl gX8_74 rfl rfl rfl rfl ?_
    refine J_iload_n (i := 1) 6 dX8_put_5 rfl rfl rfl ?_
    refine J_callSi 9 dX8_put_6 rfl kX8_77 mX8_isSheet (c_X8_isSheet) (by first | decide | omega) rfl rfl (Nat.le_of_ble_eq_true rfl) (fun z2 s3 h1 => ?_)
    obtain ⟨rfl, rfl⟩ := h1
    refine J_bif_ne 14 12 dX8_put_9 rfl rfl (fun c4 => ?_) (fun c4 => ?_)
    · exfalso; omega
    · refine J_iconst 13 dX8_put_12 rfl ?_
      refine J_iret dX8_put_13 rfl ?_
      exact ⟨if_pos (by omega), if_pos (by omega)⟩
end

