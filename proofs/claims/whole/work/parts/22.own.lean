/-! ===== the class's own methods ===== -/
def wr (z : Int) : Int := z.bmod 4294967296
theorem wr_b (z : Int) : inR (wr z) := by
  unfold wr
  have h1 := Int.le_bmod (x := z) (m := 4294967296) (by decide)
  have h2 := Int.bmod_lt (x := z) (m := 4294967296) (by decide)
  omega
theorem iI_wr (z : Int) : iI (wr z) = iI z := by
  apply Int32.toInt_inj.mp
  unfold iI wr
  rw [Int32.toInt_ofInt, Int32.toInt_ofInt]
  exact Int.bmod_bmod
theorem J.wrap {P : jP} {dp : Nat} {M : jMt} {pc : Nat} {L : List (Option Value)} {rest : List Value} {σ : jS} {Q : Option Value → jS → Prop} {e : Int} (h : J P dp M pc L (vi (wr e) :: rest) σ Q) : J P dp M pc L (vi e :: rest) σ Q := by
  have e2 : vi e = vi (wr e) := by show Value.int _ = Value.int _; rw [iI_wr]
  rw [e2]
  exact h
abbrev F8 (σ σ' : jS) : Prop := ∀ q, (q < 8 ∨ 14 < q) → σ' q = σ q
theorem F8_bec (σ : jS) : F8 σ (jbec σ 8 1) := fun q hq => by funext j; unfold jbec; rw [if_neg (by omega)]
def aOfComer (n : Int) (v : jS) (c w : Int) : Int := if ¬ (0 ≤ c ∧ c < n) then -1 else if w = 0 then v 2 c else if w = 1 then v 3 c else if w = 2 then v 4 c else if w = 3 then v 5 c else if w = 4 then v 6 c else if w = 5 then lookM v c else if w = 6 then eatsM v c else if w = 7 then (if outM v c = true then 1 else 0) else if w = 8 then crowdM v c else if w = 9 then placeM v c else -2
def aOfGate (n : Int) (v : jS) (g w : Int) : Int := if ¬ (0 ≤ g ∧ g < n) then -1 else if w = 0 then v 1 g else if w = 1 then atM v g else if w = 2 then leftM v g else if w = 3 then setN (fun c => outM v c && decide (v 5 c = g)) (nM v) else -2
def aSet (ok1 ok2 : Bool) (old : Int) : Int := if ok1 = false then -1 else if ok2 = false then -2 else old
section
variable {P : jP} {a b c d g x y z n s i k l : Int} {σ τ v : jS}
theorem c_X8_faulted (hx : 0 ≤ x ∧ x ≤ 4 := by omega) : Ct P 1 yX8_faulted cX8_faulted 2 (some .int) [vr P 0, vi x] σ (rI (-10 - x) (jup σ 0 10 x)) := by
  refine Ct.of _ rfl rfl rfl (Nat.le_of_ble_eq_true rfl) (fun hB => ?_)
  refine J_aload_n (i := 0) 1 dX8_faulted_0 rfl rfl rfl ?_
  refine J_iload_n (i := 1) 2 dX8_faulted_1 rfl rfl rfl ?_
  refine J_putI (jz := 10) (lo := 0) (hi := 4) 5 dX8_faulted_2 rfl gX8_74 rfl rfl rfl rfl ?_
  refine J_bipush 7 dX8_faulted_5 rfl (by decide) ?_
  refine J_iload_n (i := 1) 8 dX8_faulted_7 rfl rfl rfl ?_
  refine J_isub 9 dX8_faulted_8 rfl ?_
  refine J_iret dX8_faulted_9 rfl ?_
  first | exact ⟨rfl, rfl⟩ | exact rfl | exact ⟨b01_t (by omega), rfl⟩ | exact ⟨b01_f (by omega), rfl⟩ | exact ⟨by omega, rfl⟩
theorem c_X8_isSheet (hx : inR x := by omega) : Ct P 1 yX8_isSheet cX8_isSheet 1 (some .boolean) [vi x] σ (rI (b01 (0 ≤ x ∧ x < 4)) σ) := by
  refine Ct.of _ rfl rfl rfl (Nat.le_of_ble_eq_true rfl) (fun hB => ?_)
  refine J_iload_n (i := 0) 1 dX8_isSheet_0 rfl rfl rfl ?_
  refine J_if_lt 13 4 dX8_isSheet_1 rfl rfl (fun c1 => ?_) (fun c1 => ?_)
  · refine J_iconst 14 dX8_isSheet_13 rfl ?_
    refine J_zret dX8_isSheet_14 rfl ?_
    first | exact ⟨rfl, rfl⟩ | exact rfl | exact ⟨b01_t (by omega), rfl⟩ | exact ⟨b01_f (by omega), rfl⟩ | exact ⟨by omega, rfl⟩
  · refine J_iload_n (i := 0) 5 dX8_isSheet_4 rfl rfl rfl ?_
    refine J_iconst 6 dX8_isSheet_5 rfl ?_
    refine J_icmp_ge 13 9 dX8_isSheet_6 rfl rfl (fun c2 => ?_) (fun c2 => ?_)
    · refine J_iconst 14 dX8_isSheet_13 rfl ?_
      refine J_zret dX8_isSheet_14 rfl ?_
      first | exact ⟨rfl, rfl⟩ | exact rfl | exact ⟨b01_t (by omega), rfl⟩ | exact ⟨b01_f (by omega), rfl⟩ | exact ⟨by omega, rfl⟩
    · refine J_iconst 10 dX8_isSheet_9 rfl ?_
      refine J_goto 14 dX8_isSheet_10 rfl ?_
      refine J_zret dX8_isSheet_14 rfl ?_
      first | exact ⟨rfl, rfl⟩ | exact rfl | exact ⟨b01_t (by omega), rfl⟩ | exact ⟨b01_f (by omega), rfl⟩ | exact ⟨by omega, rfl⟩
theorem c_X8_isLane (hx : inR x := by omega) : Ct P 1 yX8_isLane cX8_isLane 1 (some .boolean) [vi x] σ (rI (b01 (0 ≤ x ∧ x ≤ 2)) σ) := by
  refine Ct.of _ rfl rfl rfl (Nat.le_of_ble_eq_true rfl) (fun hB => ?_)
  refine J_iload_n (i := 0) 1 dX8_isLane_0 rfl rfl rfl ?_
  refine J_if_lt 13 4 dX8_isLane_1 rfl rfl (fun c1 => ?_) (fun c1 => ?_)
  · refine J_iconst 14 dX8_isLane_13 rfl ?_
    refine J_zret dX8_isLane_14 rfl ?_
    first | exact ⟨rfl, rfl⟩ | exact rfl | exact ⟨b01_t (by omega), rfl⟩ | exact ⟨b01_f (by omega), rfl⟩ | exact ⟨by omega, rfl⟩
  · refine J_iload_n (i := 0) 5 dX8_isLane_4 rfl rfl rfl ?_
    refine J_iconst 6 dX8_isLane_5 rfl ?_
    refine J_icmp_gt 13 9 dX8_isLane_6 rfl rfl (fun c2 => ?_) (fun c2 => ?_)
    · refine J_iconst 14 dX8_isLane_13 rfl ?_
      refine J_zret dX8_isLane_14 rfl ?_
      first | exact ⟨rfl, rfl⟩ | exact rfl | exact ⟨b01_t (by omega), rfl⟩ | exact ⟨b01_f (by omega), rfl⟩ | exact ⟨by omega, rfl⟩
    · refine J_iconst 10 dX8_isLane_9 rfl ?_
      refine J_goto 14 dX8_isLane_10 rfl ?_
      refine J_zret dX8_isLane_14 rfl ?_
      first | exact ⟨rfl, rfl⟩ | exact rfl | exact ⟨b01_t (by omega), rfl⟩ | exact ⟨b01_f (by omega), rfl⟩ | exact ⟨by omega, rfl⟩
theorem c_X8_isDigit (hx : inR x := by omega) : Ct P 1 yX8_isDigit cX8_isDigit 1 (some .boolean) [vi x] σ (rI (b01 (0 ≤ x ∧ x ≤ 9)) σ) := by
  refine Ct.of _ rfl rfl rfl (Nat.le_of_ble_eq_true rfl) (fun hB => ?_)
  refine J_iload_n (i := 0) 1 dX8_isDigit_0 rfl rfl rfl ?_
  refine J_if_lt 14 4 dX8_isDigit_1 rfl rfl (fun c1 => ?_) (fun c1 => ?_)
  · refine J_iconst 15 dX8_isDigit_14 rfl ?_
    refine J_zret dX8_isDigit_15 rfl ?_
    first | exact ⟨rfl, rfl⟩ | exact rfl | exact ⟨b01_t (by omega), rfl⟩ | exact ⟨b01_f (by omega), rfl⟩ | exact ⟨by omega, rfl⟩
  · refine J_iload_n (i := 0) 5 dX8_isDigit_4 rfl rfl rfl ?_
    refine J_bipush 7 dX8_isDigit_5 rfl (by decide) ?_
    refine J_icmp_gt 14 10 dX8_isDigit_7 rfl rfl (fun c2 => ?_) (fun c2 => ?_)
    · refine J_iconst 15 dX8_isDigit_14 rfl ?_
      refine J_zret dX8_isDigit_15 rfl ?_
      first | exact ⟨rfl, rfl⟩ | exact rfl | exact ⟨b01_t (by omega), rfl⟩ | exact ⟨b01_f (by omega), rfl⟩ | exact ⟨by omega, rfl⟩
    · refine J_iconst 11 dX8_isDigit_10 rfl ?_
      refine J_goto 15 dX8_isDigit_11 rfl ?_
      refine J_zret dX8_isDigit_15 rfl ?_
      first | exact ⟨rfl, rfl⟩ | exact rfl | exact ⟨b01_t (by omega), rfl⟩ | exact ⟨b01_f (by omega), rfl⟩ | exact ⟨by omega, rfl⟩
theorem c_X8_isManner (hx : inR x := by omega) : Ct P 1 yX8_isManner cX8_isManner 1 (some .boolean) [vi x] σ (rI (b01 (0 ≤ x ∧ x ≤ 2)) σ) := by
  refine Ct.of _ rfl rfl rfl (Nat.le_of_ble_eq_true rfl) (fun hB => ?_)
  refine J_iload_n (i := 0) 1 dX8_isManner_0 rfl rfl rfl ?_
  refine J_if_lt 13 4 dX8_isManner_1 rfl rfl (fun c1 => ?_) (fun c1 => ?_)
  · refine J_iconst 14 dX8_isManner_13 rfl ?_
    refine J_zret dX8_isManner_14 rfl ?_
    first | exact ⟨rfl, rfl⟩ | exact rfl | exact ⟨b01_t (by omega), rfl⟩ | exact ⟨b01_f (by omega), rfl⟩ | exact ⟨by omega, rfl⟩
  · refine J_iload_n (i := 0) 5 dX8_isManner_4 rfl rfl rfl ?_
    refine J_iconst 6 dX8_isManner_5 rfl ?_
    refine J_icmp_gt 13 9 dX8_isManner_6 rfl rfl (fun c2 => ?_) (fun c2 => ?_)
    · refine J_iconst 14 dX8_isManner_13 rfl ?_
      refine J_zret dX8_isManner_14 rfl ?_
      first | exact ⟨rfl, rfl⟩ | exact rfl | exact ⟨b01_t (by omega), rfl⟩ | exact ⟨b01_f (by omega), rfl⟩ | exact ⟨by omega, rfl⟩
    · refine J_iconst 10 dX8_isManner_9 rfl ?_
      refine J_goto 14 dX8_isManner_10 rfl ?_
      refine J_zret dX8_isManner_14 rfl ?_
      first | exact ⟨rfl, rfl⟩ | exact rfl | exact ⟨b01_t (by omega), rfl⟩ | exact ⟨b01_f (by omega), rfl⟩ | exact ⟨by omega, rfl⟩
theorem c_X8_isAskedOfDay (hx : inR x := by omega) : Ct P 1 yX8_isAskedOfDay cX8_isAskedOfDay 1 (some .boolean) [vi x] σ (rI (b01 ((0 ≤ x ∧ x ≤ 4) ∨ (10 ≤ x ∧ x < 16))) σ) := by
  refine Ct.of _ rfl rfl rfl (Nat.le_of_ble_eq_true rfl) (fun hB => ?_)
  refine J_iload_n (i := 0) 1 dX8_isAskedOfDay_0 rfl rfl rfl ?_
  refine J_if_lt 9 4 dX8_isAskedOfDay_1 rfl rfl (fun c1 => ?_) (fun c1 => ?_)
  · refine J_iload_n (i := 0) 10 dX8_isAskedOfDay_9 rfl rfl rfl ?_
    refine J_bipush 12 dX8_isAskedOfDay_10 rfl (by decide) ?_
    refine J_icmp_lt 25 15 dX8_isAskedOfDay_12 rfl rfl (fun c2 => ?_) (fun c2 => ?_)
    · refine J_iconst 26 dX8_isAskedOfDay_25 rfl ?_
      refine J_zret dX8_isAskedOfDay_26 rfl ?_
      first | exact ⟨rfl, rfl⟩ | exact rfl | exact ⟨b01_t (by omega), rfl⟩ | exact ⟨b01_f (by omega), rfl⟩ | exact ⟨by omega, rfl⟩
    · refine J_iload_n (i := 0) 16 dX8_isAskedOfDay_15 rfl rfl rfl ?_
      refine J_bipush 18 dX8_isAskedOfDay_16 rfl (by decide) ?_
      refine J_icmp_ge 25 21 dX8_isAskedOfDay_18 rfl rfl (fun c3 => ?_) (fun c3 => ?_)
      · refine J_iconst 26 dX8_isAskedOfDay_25 rfl ?_
        refine J_zret dX8_isAskedOfDay_26 rfl ?_
        first | exact ⟨rfl, rfl⟩ | exact rfl | exact ⟨b01_t (by omega), rfl⟩ | exact ⟨b01_f (by omega), rfl⟩ | exact ⟨by omega, rfl⟩
      · refine J_iconst 22 dX8_isAskedOfDay_21 rfl ?_
        refine J_goto 26 dX8_isAskedOfDay_22 rfl ?_
        refine J_zret dX8_isAskedOfDay_26 rfl ?_
        first | exact ⟨rfl, rfl⟩ | exact rfl | exact ⟨b01_t (by omega), rfl⟩ | exact ⟨b01_f (by omega), rfl⟩ | exact ⟨by omega, rfl⟩
  · refine J_iload_n (i := 0) 5 dX8_isAskedOfDay_4 rfl rfl rfl ?_
    refine J_iconst 6 dX8_isAskedOfDay_5 rfl ?_
    refine J_icmp_le 21 9 dX8_isAskedOfDay_6 rfl rfl (fun c4 => ?_) (fun c4 => ?_)
    · refine J_iconst 22 dX8_isAskedOfDay_21 rfl ?_
      refine J_goto 26 dX8_isAskedOfDay_22 rfl ?_
      refine J_zret dX8_isAskedOfDay_26 rfl ?_
      first | exact ⟨rfl, rfl⟩ | exact rfl | exact ⟨b01_t (by omega), rfl⟩ | exact ⟨b01_f (by omega), rfl⟩ | exact ⟨by omega, rfl⟩
    · refine J_iload_n (i := 0) 10 dX8_isAskedOfDay_9 rfl rfl rfl ?_
      refine J_bipush 12 dX8_isAskedOfDay_10 rfl (by decide) ?_
      refine J_icmp_lt 25 15 dX8_isAskedOfDay_12 rfl rfl (fun c5 => ?_) (fun c5 => ?_)
      · refine J_iconst 26 dX8_isAskedOfDay_25 rfl ?_
        refine J_zret dX8_isAskedOfDay_26 rfl ?_
        first | exact ⟨rfl, rfl⟩ | exact rfl | exact ⟨b01_t (by omega), rfl⟩ | exact ⟨b01_f (by omega), rfl⟩ | exact ⟨by omega, rfl⟩
      · refine J_iload_n (i := 0) 16 dX8_isAskedOfDay_15 rfl rfl rfl ?_
        refine J_bipush 18 dX8_isAskedOfDay_16 rfl (by decide) ?_
        refine J_icmp_ge 25 21 dX8_isAskedOfDay_18 rfl rfl (fun c6 => ?_) (fun c6 => ?_)
        · refine J_iconst 26 dX8_isAskedOfDay_25 rfl ?_
          refine J_zret dX8_isAskedOfDay_26 rfl ?_
          first | exact ⟨rfl, rfl⟩ | exact rfl | exact ⟨b01_t (by omega), rfl⟩ | exact ⟨b01_f (by omega), rfl⟩ | exact ⟨by omega, rfl⟩
        · refine J_iconst 22 dX8_isAskedOfDay_21 rfl ?_
          refine J_goto 26 dX8_isAskedOfDay_22 rfl ?_
          refine J_zret dX8_isAskedOfDay_26 rfl ?_
          first | exact ⟨rfl, rfl⟩ | exact rfl | exact ⟨b01_t (by omega), rfl⟩ | exact ⟨b01_f (by omega), rfl⟩ | exact ⟨by omega, rfl⟩
theorem c_X8_leaveTrace (hx : 0 ≤ x ∧ x ≤ 9 := by omega) : Ct P 1 yX8_leaveTrace cX8_leaveTrace 2 none [vr P 0, vi x] σ (rV (jup σ 0 9 (wr (31 * σ 0 9 + x)))) := by
  have hw := wr_b (31 * σ 0 9 + x)
  refine Ct.of _ rfl rfl rfl (Nat.le_of_ble_eq_true rfl) (fun hB => ?_)
  refine J_aload_n (i := 0) 1 dX8_leaveTrace_0 rfl rfl rfl ?_
  refine J_bipush 3 dX8_leaveTrace_1 rfl (by decide) ?_
  refine J_aload_n (i := 0) 4 dX8_leaveTrace_3 rfl rfl rfl ?_
  refine J_getI (jz := 9) (lo := (-2147483648)) (hi := 2147483647) 7 dX8_leaveTrace_4 rfl fX8_70 rfl rfl rfl rfl (fun b1 b2 => ?_)
  refine J_imul 8 dX8_leaveTrace_7 rfl ?_
  refine J_iload_n (i := 1) 9 dX8_leaveTrace_8 rfl rfl rfl ?_
  refine J_iadd 10 dX8_leaveTrace_9 rfl ?_
  refine J.wrap ?_
  refine J_putI (jz := 9) (lo := (-2147483648)) (hi := 2147483647) 13 dX8_leaveTrace_10 rfl gX8_70 rfl rfl rfl rfl ?_
  refine J_vret dX8_leaveTrace_13 rfl ?_
  first | exact ⟨rfl, rfl⟩ | exact rfl | exact ⟨b01_t (by omega), rfl⟩ | exact ⟨b01_f (by omega), rfl⟩ | exact ⟨by omega, rfl⟩
def trc (t : Int) (x : Int) : Int := wr (31 * t + x)
theorem c_X8_tellPlain (hc : 0 ≤ c ∧ c < 6 := by omega) : Ct P 2 yX8_tellPlain cX8_tellPlain 2 (some .int) [vr P 0, vi c] σ (rI (σ 5 c) (jup σ 0 9 (trc (σ 0 9) 1))) := by
  refine Ct.of _ rfl rfl rfl (Nat.le_of_ble_eq_true rfl) (fun hB => ?_)
  refine J_aload_n (i := 0) 1 dX8_tellPlain_0 rfl rfl rfl ?_
  refine J_iconst 2 dX8_tellPlain_1 rfl ?_
  refine J_callVv 5 dX8_tellPlain_2 rfl kX8_318 mX8_leaveTrace rfl rfl rfl (c_X8_leaveTrace) (by first | decide | omega) rfl rfl (Nat.le_of_ble_eq_true rfl) (fun s3 h1 => ?_)
  obtain rfl := h1
  refine J_aload_n (i := 0) 6 dX8_tellPlain_5 rfl rfl rfl ?_
  refine J_getR 9 dX8_tellPlain_6 rfl fX8_14 rfl rfl ?_
  refine J_getR 12 dX8_tellPlain_9 rfl fX8_119 rfl rfl ?_
  refine J_iload_n (i := 1) 13 dX8_tellPlain_12 rfl rfl rfl ?_
  refine J_iald (N := 6) (lo := 0) (hi := 9) 14 dX8_tellPlain_13 rfl rfl rfl rfl (fun b4 b5 => ?_)
  try simp +decide only [jup, jset, ↓reduceIte] at b4 b5 ⊢
  refine J_iret dX8_tellPlain_14 rfl ?_
  exact ⟨rfl, rfl⟩
theorem jup_jup (σ : jS) (k : Nat) (j z z' : Int) : jup (jup σ k j z) k j z' = jup σ k j z' := by
  funext k2 j2
  by_cases e : k2 = k
  · by_cases e2 : j2 = j
    · simp [jup, e, e2]
    · simp [jup, e, e2]
  · simp [jup, e]
theorem c_X8_tellChalked (hc : 0 ≤ c ∧ c < 6 := by omega) : Ct P 3 yX8_tellChalked cX8_tellChalked 2 (some .int) [vr P 0, vi c] σ (rI (σ 5 c + 100) (jup σ 0 9 (trc (trc (σ 0 9) 2) 1))) := by
  refine Ct.of _ rfl rfl rfl (Nat.le_of_ble_eq_true rfl) (fun hB => ?_)
  refine J_aload_n (i := 0) 1 dX8_tellChalked_0 rfl rfl rfl ?_
  refine J_iconst 2 dX8_tellChalked_1 rfl ?_
  refine J_callVv 5 dX8_tellChalked_2 rfl kX8_318 mX8_leaveTrace rfl rfl rfl (c_X8_leaveTrace) (by first | decide | omega) rfl rfl (Nat.le_of_ble_eq_true rfl) (fun s3 h1 => ?_)
  obtain rfl := h1
  refine J_aload_n (i := 0) 6 dX8_tellChalked_5 rfl rfl rfl ?_
  refine J_iload_n (i := 1) 7 dX8_tellChalked_6 rfl rfl rfl ?_
  refine J_callVi 10 dX8_tellChalked_7 rfl kX8_291 mX8_tellPlain rfl rfl rfl (c_X8_tellPlain) (by first | decide | omega) rfl rfl (Nat.le_of_ble_eq_true rfl) (fun z5 s6 h4 => ?_)
  obtain ⟨rfl, rfl⟩ := h4
  refine J_bipush 12 dX8_tellChalked_10 rfl (by decide) ?_
  refine J_iadd 13 dX8_tellChalked_12 rfl ?_
  refine J_iret dX8_tellChalked_13 rfl ?_
  exact ⟨rfl, (jup_jup _ _ _ _ _).symm⟩
theorem c_X8_tellGrand (hc : 0 ≤ c ∧ c < 6 := by omega) : Ct P 4 yX8_tellGrand cX8_tellGrand 2 (some .int) [vr P 0, vi c] σ (rI (σ 5 c + 100 + σ 5 c) (jup σ 0 9 (trc (trc (trc (trc (σ 0 9) 3) 2) 1) 1))) := by
  refine Ct.of _ rfl rfl rfl (Nat.le_of_ble_eq_true rfl) (fun hB => ?_)
  refine J_aload_n (i := 0) 1 dX8_tellGrand_0 rfl rfl rfl ?_
  refine J_iconst 2 dX8_tellGrand_1 rfl ?_
  refine J_callVv 5 dX8_tellGrand_2 rfl kX8_318 mX8_leaveTrace rfl rfl rfl (c_X8_leaveTrace) (by first | decide | omega) rfl rfl (Nat.le_of_ble_eq_true rfl) (fun s3 h1 => ?_)
  obtain rfl := h1
  refine J_aload_n (i := 0) 6 dX8_tellGrand_5 rfl rfl rfl ?_
  refine J_iload_n (i := 1) 7 dX8_tellGrand_6 rfl rfl rfl ?_
  refine J_callVi 10 dX8_tellGrand_7 rfl kX8_288 mX8_tellChalked rfl rfl rfl (c_X8_tellChalked) (by first | decide | omega) rfl rfl (Nat.le_of_ble_eq_true rfl) (fun z5 s6 h4 => ?_)
  obtain ⟨rfl, rfl⟩ := h4
  refine J_aload_n (i := 0) 11 dX8_tellGrand_10 rfl rfl rfl ?_
  refine J_iload_n (i := 1) 12 dX8_tellGrand_11 rfl rfl rfl ?_
  refine J_callVi 15 dX8_tellGrand_12 rfl kX8_291 mX8_tellPlain rfl rfl rfl (c_X8_tellPlain) (by first | decide | omega) rfl rfl (Nat.le_of_ble_eq_true rfl) (fun z8 s9 h7 => ?_)
  obtain ⟨rfl, rfl⟩ := h7
  refine J_iadd 16 dX8_tellGrand_15 rfl ?_
  refine J_iret dX8_tellGrand_16 rfl ?_
  refine ⟨rfl, ?_⟩
  rw [jup_jup, jup_jup]
  rfl
theorem c_X8_greetLent (hc : 0 ≤ c ∧ c < 6 := by omega) : Ct P 2 yX8_greetLent cX8_greetLent 2 (some .int) [vr P 0, vi c] σ (rI (σ 4 c) (jup σ 0 9 (trc (σ 0 9) 4))) := by
  refine Ct.of _ rfl rfl rfl (Nat.le_of_ble_eq_true rfl) (fun hB => ?_)
  refine J_aload_n (i := 0) 1 dX8_greetLent_0 rfl rfl rfl ?_
  refine J_iconst 2 dX8_greetLent_1 rfl ?_
  refine J_callVv 5 dX8_greetLent_2 rfl kX8_318 mX8_leaveTrace rfl rfl rfl (c_X8_leaveTrace) (by first | decide | omega) rfl rfl (Nat.le_of_ble_eq_true rfl) (fun s3 h1 => ?_)
  obtain rfl := h1
  refine J_aload_n (i := 0) 6 dX8_greetLent_5 rfl rfl rfl ?_
  refine J_getR 9 dX8_greetLent_6 rfl fX8_14 rfl rfl ?_
  refine J_getR 12 dX8_greetLent_9 rfl fX8_116 rfl rfl ?_
  refine J_iload_n (i := 1) 13 dX8_greetLent_12 rfl rfl rfl ?_
  refine J_iald (N := 6) (lo := 0) (hi := 9) 14 dX8_greetLent_13 rfl rfl rfl rfl (fun b4 b5 => ?_)
  try simp +decide only [jup, jset, ↓reduceIte] at b4 b5 ⊢
  refine J_iret dX8_greetLent_14 rfl ?_
  exact ⟨rfl, rfl⟩
theorem c_X8_greetGrand : Ct P 2 yX8_greetGrand cX8_greetGrand 1 (some .int) [vr P 0] σ (rI 60 (jup σ 0 9 (trc (σ 0 9) 5))) := by
  refine Ct.of _ rfl rfl rfl (Nat.le_of_ble_eq_true rfl) (fun hB => ?_)
  refine J_aload_n (i := 0) 1 dX8_greetGrand_0 rfl rfl rfl ?_
  refine J_iconst 2 dX8_greetGrand_1 rfl ?_
  refine J_callVv 5 dX8_greetGrand_2 rfl kX8_318 mX8_leaveTrace rfl rfl rfl (c_X8_leaveTrace) (by first | decide | omega) rfl rfl (Nat.le_of_ble_eq_true rfl) (fun s3 h1 => ?_)
  obtain rfl := h1
  refine J_bipush 7 dX8_greetGrand_5 rfl (by decide) ?_
  refine J_iret dX8_greetGrand_7 rfl ?_
  exact ⟨rfl, rfl⟩
set_option maxHeartbeats 4000000 in
theorem c_X8_ofComer (hc : inR c) (hx : inR x) : Ct P 6 yX8_ofComer cX8_ofComer 3 (some .int) [vr P 0, vi c, vi x] σ (rI (aOfComer (σ 1 1) (vC σ 1) c x) σ) := by
  refine Ct.bd (fun hB => ?_)
  have hn := vC_n hB (w := 1) (Or.inl rfl)
  have hvB := vC_B hB (w := 1) (Or.inl rfl)
  have hsb := starvM_b hvB
  have hdv := sh_b (a := (starvM (vC σ 1)).toNat) c (by omega)
  refine Ct.of _ rfl rfl rfl (Nat.le_of_ble_eq_true rfl) (fun hB => ?_)
  refine J_aload_n (i := 0) 1 dX8_ofComer_0 rfl rfl rfl ?_
  refine J_getR 4 dX8_ofComer_1 rfl fX8_14 rfl rfl ?_
  refine J_iload_n (i := 1) 5 dX8_ofComer_4 rfl rfl rfl ?_
  refine J_callVi 8 dX8_ofComer_5 rfl kX8_109 mX7_hasComer rfl rfl rfl (c_X7_hasComer) (by first | decide | omega) rfl rfl (Nat.le_of_ble_eq_true rfl) (fun z2 s3 h1 => ?_)
  obtain ⟨rfl, rfl⟩ := h1
  refine J_bif_ne 13 11 dX8_ofComer_8 rfl rfl (fun c4 => ?_) (fun c4 => ?_)
  · refine J_iload_n (i := 2) 14 dX8_ofComer_13 rfl rfl rfl ?_
    rcases (show x = 0 ∨ x = 1 ∨ x = 2 ∨ x = 3 ∨ x = 4 ∨ x = 5 ∨ x = 6 ∨ x = 7 ∨ x = 8 ∨ x = 9 ∨ (x < 0 ∨ 9 < x) by omega) with rfl | rfl | rfl | rfl | rfl | rfl | rfl | rfl | rfl | rfl | hx2
    · refine J_tableIn 68 dX8_ofComer_14 rfl rfl ?_
      refine J_aload_n (i := 0) 69 dX8_ofComer_68 rfl rfl rfl ?_
      refine J_getR 72 dX8_ofComer_69 rfl fX8_14 rfl rfl ?_
      refine J_getR 75 dX8_ofComer_72 rfl fX8_112 rfl rfl ?_
      refine J_iload_n (i := 1) 76 dX8_ofComer_75 rfl rfl rfl ?_
      refine J_iald (N := 6) (lo := 0) (hi := 2) 77 dX8_ofComer_76 rfl rfl rfl rfl (fun b5 b6 => ?_)
      refine J_iret dX8_ofComer_77 rfl ?_
      refine ⟨?_, rfl⟩
      unfold aOfComer
      rw [if_neg (by omega)]
      rfl
    · refine J_tableIn 78 dX8_ofComer_14 rfl rfl ?_
      refine J_aload_n (i := 0) 79 dX8_ofComer_78 rfl rfl rfl ?_
      refine J_getR 82 dX8_ofComer_79 rfl fX8_14 rfl rfl ?_
      refine J_getR 85 dX8_ofComer_82 rfl fX8_116 rfl rfl ?_
      refine J_iload_n (i := 1) 86 dX8_ofComer_85 rfl rfl rfl ?_
      refine J_iald (N := 6) (lo := 0) (hi := 9) 87 dX8_ofComer_86 rfl rfl rfl rfl (fun b7 b8 => ?_)
      refine J_iret dX8_ofComer_87 rfl ?_
      refine ⟨?_, rfl⟩
      unfold aOfComer
      rw [if_neg (by omega)]
      rfl
    · refine J_tableIn 88 dX8_ofComer_14 rfl rfl ?_
      refine J_aload_n (i := 0) 89 dX8_ofComer_88 rfl rfl rfl ?_
      refine J_getR 92 dX8_ofComer_89 rfl fX8_14 rfl rfl ?_
      refine J_getR 95 dX8_ofComer_92 rfl fX8_119 rfl rfl ?_
      refine J_iload_n (i := 1) 96 dX8_ofComer_95 rfl rfl rfl ?_
      refine J_iald (N := 6) (lo := 0) (hi := 9) 97 dX8_ofComer_96 rfl rfl rfl rfl (fun b9 b10 => ?_)
      refine J_iret dX8_ofComer_97 rfl ?_
      refine ⟨?_, rfl⟩
      unfold aOfComer
      rw [if_neg (by omega)]
      rfl
    · refine J_tableIn 98 dX8_ofComer_14 rfl rfl ?_
      refine J_aload_n (i := 0) 99 dX8_ofComer_98 rfl rfl rfl ?_
      refine J_getR 102 dX8_ofComer_99 rfl fX8_14 rfl rfl ?_
      refine J_getR 105 dX8_ofComer_102 rfl fX8_122 rfl rfl ?_
      refine J_iload_n (i := 1) 106 dX8_ofComer_105 rfl rfl rfl ?_
      refine J_iald (N := 6) (lo := 0) (hi := 2) 107 dX8_ofComer_106 rfl rfl rfl rfl (fun b11 b12 => ?_)
      refine J_iret dX8_ofComer_107 rfl ?_
      refine ⟨?_, rfl⟩
      unfold aOfComer
      rw [if_neg (by omega)]
      rfl
    · refine J_tableIn 108 dX8_ofComer_14 rfl rfl ?_
      refine J_aload_n (i := 0) 109 dX8_ofComer_108 rfl rfl rfl ?_
      refine J_getR 112 dX8_ofComer_109 rfl fX8_14 rfl rfl ?_
      refine J_getR 115 dX8_ofComer_112 rfl fX8_125 rfl rfl ?_
      refine J_iload_n (i := 1) 116 dX8_ofComer_115 rfl rfl rfl ?_
      refine J_iald (N := 6) (lo := 0) (hi := 9) 117 dX8_ofComer_116 rfl rfl rfl rfl (fun b13 b14 => ?_)
      refine J_iret dX8_ofComer_117 rfl ?_
      refine ⟨?_, rfl⟩
      unfold aOfComer
      rw [if_neg (by omega)]
      rfl
    · refine J_tableIn 118 dX8_ofComer_14 rfl rfl ?_
      refine J_aload_n (i := 0) 119 dX8_ofComer_118 rfl rfl rfl ?_
      refine J_getR 122 dX8_ofComer_119 rfl fX8_14 rfl rfl ?_
      refine J_iload_n (i := 1) 123 dX8_ofComer_122 rfl rfl rfl ?_
      refine J_callVi 126 dX8_ofComer_123 rfl kX8_128 mX7_look rfl rfl rfl (c_X7_look) (by first | decide | omega) rfl rfl (Nat.le_of_ble_eq_true rfl) (fun z16 s17 h15 => ?_)
      obtain ⟨rfl, rfl⟩ := h15
      refine J_iret dX8_ofComer_126 rfl ?_
      refine ⟨?_, rfl⟩
      unfold aOfComer
      rw [if_neg (by omega)]
      rfl
    · refine J_tableIn 127 dX8_ofComer_14 rfl rfl ?_
      refine J_aload_n (i := 0) 128 dX8_ofComer_127 rfl rfl rfl ?_
      refine J_getR 131 dX8_ofComer_128 rfl fX8_14 rfl rfl ?_
      refine J_iload_n (i := 1) 132 dX8_ofComer_131 rfl rfl rfl ?_
      refine J_callVi 135 dX8_ofComer_132 rfl kX8_131 mX7_eats rfl rfl rfl (c_X7_eats) (by first | decide | omega) rfl rfl (Nat.le_of_ble_eq_true rfl) (fun z19 s20 h18 => ?_)
      obtain ⟨rfl, rfl⟩ := h18
      refine J_iret dX8_ofComer_135 rfl ?_
      refine ⟨?_, rfl⟩
      unfold aOfComer
      rw [if_neg (by omega)]
      rfl
    · refine J_tableIn 136 dX8_ofComer_14 rfl rfl ?_
      refine J_aload_n (i := 0) 137 dX8_ofComer_136 rfl rfl rfl ?_
      refine J_getR 140 dX8_ofComer_137 rfl fX8_14 rfl rfl ?_
      refine J_callVi 143 dX8_ofComer_140 rfl kX8_134 mX7_starving rfl rfl rfl (c_X7_starving) (by first | decide | omega) rfl rfl (Nat.le_of_ble_eq_true rfl) (fun z22 s23 h21 => ?_)
      obtain ⟨rfl, rfl⟩ := h21
      refine J_iload_n (i := 1) 144 dX8_ofComer_143 rfl rfl rfl ?_
      refine J_ishr 145 dX8_ofComer_144 rfl ?_
      refine J_iconst 146 dX8_ofComer_145 rfl ?_
      refine J_iand 147 dX8_ofComer_146 rfl ?_
      refine J_iret dX8_ofComer_147 rfl ?_
      refine ⟨?_, rfl⟩
      unfold aOfComer
      rw [if_neg (by omega)]
      have hb := setN_bit (outM (vC σ 1)) (n := nM (vC σ 1)) (i := c.toNat) (by omega)
      rw [show ((c.toNat : Nat) : Int) = c by omega] at hb
      exact hb.symm
    · refine J_tableIn 148 dX8_ofComer_14 rfl rfl ?_
      refine J_aload_n (i := 0) 149 dX8_ofComer_148 rfl rfl rfl ?_
      refine J_getR 152 dX8_ofComer_149 rfl fX8_14 rfl rfl ?_
      refine J_iload_n (i := 1) 153 dX8_ofComer_152 rfl rfl rfl ?_
      refine J_callVi 156 dX8_ofComer_153 rfl kX8_138 mX7_crowdedOutBy rfl rfl rfl (c_X7_crowdedOutBy) (by first | decide | omega) rfl rfl (Nat.le_of_ble_eq_true rfl) (fun z25 s26 h24 => ?_)
      obtain ⟨rfl, rfl⟩ := h24
      refine J_iret dX8_ofComer_156 rfl ?_
      refine ⟨?_, rfl⟩
      unfold aOfComer
      rw [if_neg (by omega)]
      rfl
    · refine J_tableIn 157 dX8_ofComer_14 rfl rfl ?_
      refine J_aload_n (i := 0) 158 dX8_ofComer_157 rfl rfl rfl ?_
      refine J_getR 161 dX8_ofComer_158 rfl fX8_14 rfl rfl ?_
      refine J_iload_n (i := 1) 162 dX8_ofComer_161 rfl rfl rfl ?_
      refine J_callVi 165 dX8_ofComer_162 rfl kX8_141 mX7_placeOf rfl rfl rfl (c_X7_placeOf) (by first | decide | omega) rfl rfl (Nat.le_of_ble_eq_true rfl) (fun z28 s29 h27 => ?_)
      obtain ⟨rfl, rfl⟩ := h27
      refine J_iret dX8_ofComer_165 rfl ?_
      refine ⟨?_, rfl⟩
      unfold aOfComer
      rw [if_neg (by omega)]
      rfl
    · refine J_tableOut 166 dX8_ofComer_14 rfl ?_
      refine J_bipush 168 dX8_ofComer_166 rfl (by decide) ?_
      refine J_iret dX8_ofComer_168 rfl ?_
      refine ⟨?_, rfl⟩
      unfold aOfComer
      rw [if_neg (by omega), if_neg (by omega), if_neg (by omega), if_neg (by omega), if_neg (by omega), if_neg (by omega), if_neg (by omega), if_neg (by omega), if_neg (by omega), if_neg (by omega), if_neg (by omega)]
  · refine J_iconst 12 dX8_ofComer_11 rfl ?_
    refine J_iret dX8_ofComer_12 rfl ?_
    exact ⟨if_pos (by omega), rfl⟩
set_option maxHeartbeats 4000000 in
theorem c_X8_ofGate (hc : inR c) (hx : inR x) : Ct P 5 yX8_ofGate cX8_ofGate 3 (some .int) [vr P 0, vi c, vi x] σ (rI (aOfGate (σ 1 0) (vC σ 1) c x) σ) := by
  refine Ct.bd (fun hB => ?_)
  have hn := vC_g hB (w := 1) (Or.inl rfl)
  have hvB := vC_B hB (w := 1) (Or.inl rfl)
  have hsb := starvM_b hvB
  have hab := atM_b hvB c
  refine Ct.of _ rfl rfl rfl (Nat.le_of_ble_eq_true rfl) (fun hB => ?_)
  refine J_aload_n (i := 0) 1 dX8_ofGate_0 rfl rfl rfl ?_
  refine J_getR 4 dX8_ofGate_1 rfl fX8_14 rfl rfl ?_
  refine J_iload_n (i := 1) 5 dX8_ofGate_4 rfl rfl rfl ?_
  refine J_callVi 8 dX8_ofGate_5 rfl kX8_144 mX7_hasGate rfl rfl rfl (c_X7_hasGate) (by first | decide | omega) rfl rfl (Nat.le_of_ble_eq_true rfl) (fun z2 s3 h1 => ?_)
  obtain ⟨rfl, rfl⟩ := h1
  refine J_bif_ne 13 11 dX8_ofGate_8 rfl rfl (fun c4 => ?_) (fun c4 => ?_)
  · refine J_iload_n (i := 2) 14 dX8_ofGate_13 rfl rfl rfl ?_
    rcases (show x = 0 ∨ x = 1 ∨ x = 2 ∨ x = 3 ∨ (x < 0 ∨ 3 < x) by omega) with rfl | rfl | rfl | rfl | hx2
    · refine J_tableIn 44 dX8_ofGate_14 rfl rfl ?_
      refine J_aload_n (i := 0) 45 dX8_ofGate_44 rfl rfl rfl ?_
      refine J_getR 48 dX8_ofGate_45 rfl fX8_14 rfl rfl ?_
      refine J_getR 51 dX8_ofGate_48 rfl fX8_147 rfl rfl ?_
      refine J_iload_n (i := 1) 52 dX8_ofGate_51 rfl rfl rfl ?_
      refine J_iald (N := 3) (lo := 0) (hi := 9) 53 dX8_ofGate_52 rfl rfl rfl rfl (fun b5 b6 => ?_)
      refine J_iret dX8_ofGate_53 rfl ?_
      refine ⟨?_, rfl⟩
      unfold aOfGate
      rw [if_neg (by omega)]
      rfl
    · refine J_tableIn 54 dX8_ofGate_14 rfl rfl ?_
      refine J_aload_n (i := 0) 55 dX8_ofGate_54 rfl rfl rfl ?_
      refine J_getR 58 dX8_ofGate_55 rfl fX8_14 rfl rfl ?_
      refine J_iload_n (i := 1) 59 dX8_ofGate_58 rfl rfl rfl ?_
      refine J_callVi 62 dX8_ofGate_59 rfl kX8_150 mX7_comersAt rfl rfl rfl (c_X7_comersAt) (by first | decide | omega) rfl rfl (Nat.le_of_ble_eq_true rfl) (fun z8 s9 h7 => ?_)
      obtain ⟨rfl, rfl⟩ := h7
      refine J_iret dX8_ofGate_62 rfl ?_
      refine ⟨?_, rfl⟩
      unfold aOfGate
      rw [if_neg (by omega)]
      rfl
    · refine J_tableIn 63 dX8_ofGate_14 rfl rfl ?_
      refine J_aload_n (i := 0) 64 dX8_ofGate_63 rfl rfl rfl ?_
      refine J_getR 67 dX8_ofGate_64 rfl fX8_14 rfl rfl ?_
      refine J_iload_n (i := 1) 68 dX8_ofGate_67 rfl rfl rfl ?_
      refine J_callVi 71 dX8_ofGate_68 rfl kX8_153 mX7_leftAt rfl rfl rfl (c_X7_leftAt) (by first | decide | omega) rfl rfl (Nat.le_of_ble_eq_true rfl) (fun z11 s12 h10 => ?_)
      obtain ⟨rfl, rfl⟩ := h10
      refine J_iret dX8_ofGate_71 rfl ?_
      refine ⟨?_, rfl⟩
      unfold aOfGate
      rw [if_neg (by omega)]
      rfl
    · refine J_tableIn 72 dX8_ofGate_14 rfl rfl ?_
      refine J_aload_n (i := 0) 73 dX8_ofGate_72 rfl rfl rfl ?_
      refine J_getR 76 dX8_ofGate_73 rfl fX8_14 rfl rfl ?_
      refine J_callVi 79 dX8_ofGate_76 rfl kX8_134 mX7_starving rfl rfl rfl (c_X7_starving) (by first | decide | omega) rfl rfl (Nat.le_of_ble_eq_true rfl) (fun z14 s15 h13 => ?_)
      obtain ⟨rfl, rfl⟩ := h13
      refine J_aload_n (i := 0) 80 dX8_ofGate_79 rfl rfl rfl ?_
      refine J_getR 83 dX8_ofGate_80 rfl fX8_14 rfl rfl ?_
      refine J_iload_n (i := 1) 84 dX8_ofGate_83 rfl rfl rfl ?_
      refine J_callVi 87 dX8_ofGate_84 rfl kX8_150 mX7_comersAt rfl rfl rfl (c_X7_comersAt) (by first | decide | omega) rfl rfl (Nat.le_of_ble_eq_true rfl) (fun z17 s18 h16 => ?_)
      obtain ⟨rfl, rfl⟩ := h16
      refine J_iand 88 dX8_ofGate_87 rfl ?_
      refine J_iret dX8_ofGate_88 rfl ?_
      refine ⟨?_, rfl⟩
      unfold aOfGate
      rw [if_neg (by omega)]
      exact (setN_and _ _ _).symm
    · refine J_tableOut 89 dX8_ofGate_14 rfl ?_
      refine J_bipush 91 dX8_ofGate_89 rfl (by decide) ?_
      refine J_iret dX8_ofGate_91 rfl ?_
      refine ⟨?_, rfl⟩
      unfold aOfGate
      rw [if_neg (by omega), if_neg (by omega), if_neg (by omega), if_neg (by omega), if_neg (by omega)]
  · refine J_iconst 12 dX8_ofGate_11 rfl ?_
    refine J_iret dX8_ofGate_12 rfl ?_
    exact ⟨if_pos (by omega), rfl⟩
def aDig (n c x old : Int) : Int := if ¬ (0 ≤ c ∧ c < n) then -1 else if ¬ (0 ≤ x ∧ x ≤ 9) then -2 else old
theorem c_X8_show (hc : inR c) (hx : inR x) : Ct P 2 yX8_show cX8_show 4 (some .int) [vr P 0, vi c, vi x] σ (rI (aDig (σ 1 1) c x (σ 5 c)) (if (0 ≤ c ∧ c < σ 1 1) ∧ 0 ≤ x ∧ x ≤ 9 then jup σ 5 c x else σ)) := by
  refine Ct.bd (fun hB => ?_)
  have hn := vC_n hB (w := 1) (Or.inl rfl)
  refine Ct.of _ rfl rfl rfl (Nat.le_of_ble_eq_true rfl) (fun hB => ?_)
  refine J_aload_n (i := 0) 1 dX8_show_0 rfl rfl rfl ?_
  refine J_getR 4 dX8_show_1 rfl fX8_14 rfl rfl ?_
  refine J_iload_n (i := 1) 5 dX8_show_4 rfl rfl rfl ?_
  refine J_callVi 8 dX8_show_5 rfl kX8_109 mX7_hasComer rfl rfl rfl (c_X7_hasComer) (by first | decide | omega) rfl rfl (Nat.le_of_ble_eq_true rfl) (fun z2 s3 h1 => ?_)
  obtain ⟨rfl, rfl⟩ := h1
  refine J_bif_ne 13 11 dX8_show_8 rfl rfl (fun c4 => ?_) (fun c4 => ?_)
  · refine J_iload_n (i := 2) 14 dX8_show_13 rfl rfl rfl ?_
    refine J_callSi 17 dX8_show_14 rfl kX8_156 mX8_isDigit (c_X8_isDigit) (by first | decide | omega) rfl rfl (Nat.le_of_ble_eq_true rfl) (fun z6 s7 h5 => ?_)
    obtain ⟨rfl, rfl⟩ := h5
    refine J_bif_ne 23 20 dX8_show_17 rfl rfl (fun c8 => ?_) (fun c8 => ?_)
    · refine J_aload_n (i := 0) 24 dX8_show_23 rfl rfl rfl ?_
      refine J_getR 27 dX8_show_24 rfl fX8_14 rfl rfl ?_
      refine J_getR 30 dX8_show_27 rfl fX8_119 rfl rfl ?_
      refine J_iload_n (i := 1) 31 dX8_show_30 rfl rfl rfl ?_
      refine J_iald (N := 6) (lo := 0) (hi := 9) 32 dX8_show_31 rfl rfl rfl rfl (fun b9 b10 => ?_)
      refine J_istore_n (i := 3) 33 dX8_show_32 rfl rfl (by decide) ?_
      refine J_aload_n (i := 0) 34 dX8_show_33 rfl rfl rfl ?_
      refine J_getR 37 dX8_show_34 rfl fX8_14 rfl rfl ?_
      refine J_getR 40 dX8_show_37 rfl fX8_119 rfl rfl ?_
      refine J_iload_n (i := 1) 41 dX8_show_40 rfl rfl rfl ?_
      refine J_iload_n (i := 2) 42 dX8_show_41 rfl rfl rfl ?_
      refine J_iast (N := 6) (lo := 0) (hi := 9) 43 dX8_show_42 rfl rfl rfl rfl ?_
      refine J_iload_n (i := 3) 44 dX8_show_43 rfl rfl rfl ?_
      refine J_iret dX8_show_44 rfl ?_
      refine ⟨?_, ?_⟩
      · unfold aDig
        first | rfl | (rw [if_pos (by omega)]; done) | (rw [if_neg (by omega)]; done) | (rw [if_neg (by omega), if_pos (by omega)]; done) | (rw [if_neg (by omega), if_neg (by omega)]; done) | (rw [if_neg (by omega), if_neg (by omega), if_pos (by omega)]; done) | (rw [if_neg (by omega), if_neg (by omega), if_neg (by omega)]; done) | (rw [if_neg (by omega), if_neg (by omega), if_neg (by omega), if_pos (by omega)]; done) | (rw [if_neg (by omega), if_neg (by omega), if_neg (by omega), if_neg (by omega)]; done)
      · first | rfl | (rw [if_pos (by omega)]; done) | (rw [if_neg (by omega)]; done) | (rw [if_neg (by omega), if_pos (by omega)]; done) | (rw [if_neg (by omega), if_neg (by omega)]; done) | (rw [if_neg (by omega), if_neg (by omega), if_pos (by omega)]; done) | (rw [if_neg (by omega), if_neg (by omega), if_neg (by omega)]; done) | (rw [if_neg (by omega), if_neg (by omega), if_neg (by omega), if_pos (by omega)]; done) | (rw [if_neg (by omega), if_neg (by omega), if_neg (by omega), if_neg (by omega)]; done)
    · refine J_bipush 22 dX8_show_20 rfl (by decide) ?_
      refine J_iret dX8_show_22 rfl ?_
      refine ⟨?_, ?_⟩
      · unfold aDig
        first | rfl | (rw [if_pos (by omega)]; done) | (rw [if_neg (by omega)]; done) | (rw [if_neg (by omega), if_pos (by omega)]; done) | (rw [if_neg (by omega), if_neg (by omega)]; done) | (rw [if_neg (by omega), if_neg (by omega), if_pos (by omega)]; done) | (rw [if_neg (by omega), if_neg (by omega), if_neg (by omega)]; done) | (rw [if_neg (by omega), if_neg (by omega), if_neg (by omega), if_pos (by omega)]; done) | (rw [if_neg (by omega), if_neg (by omega), if_neg (by omega), if_neg (by omega)]; done)
      · first | rfl | (rw [if_pos (by omega)]; done) | (rw [if_neg (by omega)]; done) | (rw [if_neg (by omega), if_pos (by omega)]; done) | (rw [if_neg (by omega), if_neg (by omega)]; done) | (rw [if_neg (by omega), if_neg (by omega), if_pos (by omega)]; done) | (rw [if_neg (by omega), if_neg (by omega), if_neg (by omega)]; done) | (rw [if_neg (by omega), if_neg (by omega), if_neg (by omega), if_pos (by omega)]; done) | (rw [if_neg (by omega), if_neg (by omega), if_neg (by omega), if_neg (by omega)]; done)
  · refine J_iconst 12 dX8_show_11 rfl ?_
    refine J_iret dX8_show_12 rfl ?_
    refine ⟨?_, ?_⟩
    · unfold aDig
      first | rfl | (rw [if_pos (by omega)]; done) | (rw [if_neg (by omega)]; done) | (rw [if_neg (by omega), if_pos (by omega)]; done) | (rw [if_neg (by omega), if_neg (by omega)]; done) | (rw [if_neg (by omega), if_neg (by omega), if_pos (by omega)]; done) | (rw [if_neg (by omega), if_neg (by omega), if_neg (by omega)]; done) | (rw [if_neg (by omega), if_neg (by omega), if_neg (by omega), if_pos (by omega)]; done) | (rw [if_neg (by omega), if_neg (by omega), if_neg (by omega), if_neg (by omega)]; done)
    · first | rfl | (rw [if_pos (by omega)]; done) | (rw [if_neg (by omega)]; done) | (rw [if_neg (by omega), if_pos (by omega)]; done) | (rw [if_neg (by omega), if_neg (by omega)]; done) | (rw [if_neg (by omega), if_neg (by omega), if_pos (by omega)]; done) | (rw [if_neg (by omega), if_neg (by omega), if_neg (by omega)]; done) | (rw [if_neg (by omega), if_neg (by omega), if_neg (by omega), if_pos (by omega)]; done) | (rw [if_neg (by omega), if_neg (by omega), if_neg (by omega), if_neg (by omega)]; done)
theorem c_X8_bake (hc : inR c) (hx : inR x) : Ct P 2 yX8_bake cX8_bake 4 (some .int) [vr P 0, vi c, vi x] σ (rI (aDig (σ 1 0) c x (σ 2 c)) (if (0 ≤ c ∧ c < σ 1 0) ∧ 0 ≤ x ∧ x ≤ 9 then jup σ 2 c x else σ)) := by
  refine Ct.bd (fun hB => ?_)
  have hn := vC_g hB (w := 1) (Or.inl rfl)
  refine Ct.of _ rfl rfl rfl (Nat.le_of_ble_eq_true rfl) (fun hB => ?_)
  refine J_aload_n (i := 0) 1 dX8_bake_0 rfl rfl rfl ?_
  refine J_getR 4 dX8_bake_1 rfl fX8_14 rfl rfl ?_
  refine J_iload_n (i := 1) 5 dX8_bake_4 rfl rfl rfl ?_
  refine J_callVi 8 dX8_bake_5 rfl kX8_144 mX7_hasGate rfl rfl rfl (c_X7_hasGate) (by first | decide | omega) rfl rfl (Nat.le_of_ble_eq_true rfl) (fun z2 s3 h1 => ?_)
  obtain ⟨rfl, rfl⟩ := h1
  refine J_bif_ne 13 11 dX8_bake_8 rfl rfl (fun c4 => ?_) (fun c4 => ?_)
  · refine J_iload_n (i := 2) 14 dX8_bake_13 rfl rfl rfl ?_
    refine J_callSi 17 dX8_bake_14 rfl kX8_156 mX8_isDigit (c_X8_isDigit) (by first | decide | omega) rfl rfl (Nat.le_of_ble_eq_true rfl) (fun z6 s7 h5 => ?_)
    obtain ⟨rfl, rfl⟩ := h5
    refine J_bif_ne 23 20 dX8_bake_17 rfl rfl (fun c8 => ?_) (fun c8 => ?_)
    · refine J_aload_n (i := 0) 24 dX8_bake_23 rfl rfl rfl ?_
      refine J_getR 27 dX8_bake_24 rfl fX8_14 rfl rfl ?_
      refine J_getR 30 dX8_bake_27 rfl fX8_147 rfl rfl ?_
      refine J_iload_n (i := 1) 31 dX8_bake_30 rfl rfl rfl ?_
      refine J_iald (N := 3) (lo := 0) (hi := 9) 32 dX8_bake_31 rfl rfl rfl rfl (fun b9 b10 => ?_)
      refine J_istore_n (i := 3) 33 dX8_bake_32 rfl rfl (by decide) ?_
      refine J_aload_n (i := 0) 34 dX8_bake_33 rfl rfl rfl ?_
      refine J_getR 37 dX8_bake_34 rfl fX8_14 rfl rfl ?_
      refine J_getR 40 dX8_bake_37 rfl fX8_147 rfl rfl ?_
      refine J_iload_n (i := 1) 41 dX8_bake_40 rfl rfl rfl ?_
      refine J_iload_n (i := 2) 42 dX8_bake_41 rfl rfl rfl ?_
      refine J_iast (N := 3) (lo := 0) (hi := 9) 43 dX8_bake_42 rfl rfl rfl rfl ?_
      refine J_iload_n (i := 3) 44 dX8_bake_43 rfl rfl rfl ?_
      refine J_iret dX8_bake_44 rfl ?_
      refine ⟨?_, ?_⟩
      · unfold aDig
        first | rfl | (rw [if_pos (by omega)]; done) | (rw [if_neg (by omega)]; done) | (rw [if_neg (by omega), if_pos (by omega)]; done) | (rw [if_neg (by omega), if_neg (by omega)]; done) | (rw [if_neg (by omega), if_neg (by omega), if_pos (by omega)]; done) | (rw [if_neg (by omega), if_neg (by omega), if_neg (by omega)]; done) | (rw [if_neg (by omega), if_neg (by omega), if_neg (by omega), if_pos (by omega)]; done) | (rw [if_neg (by omega), if_neg (by omega), if_neg (by omega), if_neg (by omega)]; done)
      · first | rfl | (rw [if_pos (by omega)]; done) | (rw [if_neg (by omega)]; done) | (rw [if_neg (by omega), if_pos (by omega)]; done) | (rw [if_neg (by omega), if_neg (by omega)]; done) | (rw [if_neg (by omega), if_neg (by omega), if_pos (by omega)]; done) | (rw [if_neg (by omega), if_neg (by omega), if_neg (by omega)]; done) | (rw [if_neg (by omega), if_neg (by omega), if_neg (by omega), if_pos (by omega)]; done) | (rw [if_neg (by omega), if_neg (by omega), if_neg (by omega), if_neg (by omega)]; done)
    · refine J_bipush 22 dX8_bake_20 rfl (by decide) ?_
      refine J_iret dX8_bake_22 rfl ?_
      refine ⟨?_, ?_⟩
      · unfold aDig
        first | rfl | (rw [if_pos (by omega)]; done) | (rw [if_neg (by omega)]; done) | (rw [if_neg (by omega), if_pos (by omega)]; done) | (rw [if_neg (by omega), if_neg (by omega)]; done) | (rw [if_neg (by omega), if_neg (by omega), if_pos (by omega)]; done) | (rw [if_neg (by omega), if_neg (by omega), if_neg (by omega)]; done) | (rw [if_neg (by omega), if_neg (by omega), if_neg (by omega), if_pos (by omega)]; done) | (rw [if_neg (by omega), if_neg (by omega), if_neg (by omega), if_neg (by omega)]; done)
      · first | rfl | (rw [if_pos (by omega)]; done) | (rw [if_neg (by omega)]; done) | (rw [if_neg (by omega), if_pos (by omega)]; done) | (rw [if_neg (by omega), if_neg (by omega)]; done) | (rw [if_neg (by omega), if_neg (by omega), if_pos (by omega)]; done) | (rw [if_neg (by omega), if_neg (by omega), if_neg (by omega)]; done) | (rw [if_neg (by omega), if_neg (by omega), if_neg (by omega), if_pos (by omega)]; done) | (rw [if_neg (by omega), if_neg (by omega), if_neg (by omega), if_neg (by omega)]; done)
  · refine J_iconst 12 dX8_bake_11 rfl ?_
    refine J_iret dX8_bake_12 rfl ?_
    refine ⟨?_, ?_⟩
    · unfold aDig
      first | rfl | (rw [if_pos (by omega)]; done) | (rw [if_neg (by omega)]; done) | (rw [if_neg (by omega), if_pos (by omega)]; done) | (rw [if_neg (by omega), if_neg (by omega)]; done) | (rw [if_neg (by omega), if_neg (by omega), if_pos (by omega)]; done) | (rw [if_neg (by omega), if_neg (by omega), if_neg (by omega)]; done) | (rw [if_neg (by omega), if_neg (by omega), if_neg (by omega), if_pos (by omega)]; done) | (rw [if_neg (by omega), if_neg (by omega), if_neg (by omega), if_neg (by omega)]; done)
    · first | rfl | (rw [if_pos (by omega)]; done) | (rw [if_neg (by omega)]; done) | (rw [if_neg (by omega), if_pos (by omega)]; done) | (rw [if_neg (by omega), if_neg (by omega)]; done) | (rw [if_neg (by omega), if_neg (by omega), if_pos (by omega)]; done) | (rw [if_neg (by omega), if_neg (by omega), if_neg (by omega)]; done) | (rw [if_neg (by omega), if_neg (by omega), if_neg (by omega), if_pos (by omega)]; done) | (rw [if_neg (by omega), if_neg (by omega), if_neg (by omega), if_neg (by omega)]; done)
theorem c_X8_lead (hc : inR c) (hx : inR x) : Ct P 2 yX8_lead cX8_lead 4 (some .int) [vr P 0, vi c, vi x] σ (rI (if ¬ ((0 ≤ c ∧ c < σ 1 1) ∧ 0 ≤ x ∧ x < σ 1 0) then -1 else σ 6 c) (if (0 ≤ c ∧ c < σ 1 1) ∧ 0 ≤ x ∧ x < σ 1 0 then jup σ 6 c x else σ)) := by
  refine Ct.bd (fun hB => ?_)
  have hn := vC_n hB (w := 1) (Or.inl rfl)
  have hg := vC_g hB (w := 1) (Or.inl rfl)
  refine Ct.of _ rfl rfl rfl (Nat.le_of_ble_eq_true rfl) (fun hB => ?_)
  refine J_aload_n (i := 0) 1 dX8_lead_0 rfl rfl rfl ?_
  refine J_getR 4 dX8_lead_1 rfl fX8_14 rfl rfl ?_
  refine J_iload_n (i := 1) 5 dX8_lead_4 rfl rfl rfl ?_
  refine J_callVi 8 dX8_lead_5 rfl kX8_109 mX7_hasComer rfl rfl rfl (c_X7_hasComer) (by first | decide | omega) rfl rfl (Nat.le_of_ble_eq_true rfl) (fun z2 s3 h1 => ?_)
  obtain ⟨rfl, rfl⟩ := h1
  refine J_bif_eq 22 11 dX8_lead_8 rfl rfl (fun c4 => ?_) (fun c4 => ?_)
  · refine J_iconst 23 dX8_lead_22 rfl ?_
    refine J_iret dX8_lead_23 rfl ?_
    refine ⟨?_, ?_⟩
    · first | rfl | (rw [if_pos (by omega)]; done) | (rw [if_neg (by omega)]; done) | (rw [if_neg (by omega), if_pos (by omega)]; done) | (rw [if_neg (by omega), if_neg (by omega)]; done) | (rw [if_neg (by omega), if_neg (by omega), if_pos (by omega)]; done) | (rw [if_neg (by omega), if_neg (by omega), if_neg (by omega)]; done) | (rw [if_neg (by omega), if_neg (by omega), if_neg (by omega), if_pos (by omega)]; done) | (rw [if_neg (by omega), if_neg (by omega), if_neg (by omega), if_neg (by omega)]; done)
    · first | rfl | (rw [if_pos (by omega)]; done) | (rw [if_neg (by omega)]; done) | (rw [if_neg (by omega), if_pos (by omega)]; done) | (rw [if_neg (by omega), if_neg (by omega)]; done) | (rw [if_neg (by omega), if_neg (by omega), if_pos (by omega)]; done) | (rw [if_neg (by omega), if_neg (by omega), if_neg (by omega)]; done) | (rw [if_neg (by omega), if_neg (by omega), if_neg (by omega), if_pos (by omega)]; done) | (rw [if_neg (by omega), if_neg (by omega), if_neg (by omega), if_neg (by omega)]; done)
  · refine J_aload_n (i := 0) 12 dX8_lead_11 rfl rfl rfl ?_
    refine J_getR 15 dX8_lead_12 rfl fX8_14 rfl rfl ?_
    refine J_iload_n (i := 2) 16 dX8_lead_15 rfl rfl rfl ?_
    refine J_callVi 19 dX8_lead_16 rfl kX8_144 mX7_hasGate rfl rfl rfl (c_X7_hasGate) (by first | decide | omega) rfl rfl (Nat.le_of_ble_eq_true rfl) (fun z6 s7 h5 => ?_)
    obtain ⟨rfl, rfl⟩ := h5
    refine J_bif_ne 24 22 dX8_lead_19 rfl rfl (fun c8 => ?_) (fun c8 => ?_)
    · refine J_aload_n (i := 0) 25 dX8_lead_24 rfl rfl rfl ?_
      refine J_getR 28 dX8_lead_25 rfl fX8_14 rfl rfl ?_
      refine J_getR 31 dX8_lead_28 rfl fX8_122 rfl rfl ?_
      refine J_iload_n (i := 1) 32 dX8_lead_31 rfl rfl rfl ?_
      refine J_iald (N := 6) (lo := 0) (hi := 2) 33 dX8_lead_32 rfl rfl rfl rfl (fun b9 b10 => ?_)
      refine J_istore_n (i := 3) 34 dX8_lead_33 rfl rfl (by decide) ?_
      refine J_aload_n (i := 0) 35 dX8_lead_34 rfl rfl rfl ?_
      refine J_getR 38 dX8_lead_35 rfl fX8_14 rfl rfl ?_
      refine J_getR 41 dX8_lead_38 rfl fX8_122 rfl rfl ?_
      refine J_iload_n (i := 1) 42 dX8_lead_41 rfl rfl rfl ?_
      refine J_iload_n (i := 2) 43 dX8_lead_42 rfl rfl rfl ?_
      refine J_iast (N := 6) (lo := 0) (hi := 2) 44 dX8_lead_43 rfl rfl rfl rfl ?_
      refine J_iload_n (i := 3) 45 dX8_lead_44 rfl rfl rfl ?_
      refine J_iret dX8_lead_45 rfl ?_
      refine ⟨?_, ?_⟩
      · first | rfl | (rw [if_pos (by omega)]; done) | (rw [if_neg (by omega)]; done) | (rw [if_neg (by omega), if_pos (by omega)]; done) | (rw [if_neg (by omega), if_neg (by omega)]; done) | (rw [if_neg (by omega), if_neg (by omega), if_pos (by omega)]; done) | (rw [if_neg (by omega), if_neg (by omega), if_neg (by omega)]; done) | (rw [if_neg (by omega), if_neg (by omega), if_neg (by omega), if_pos (by omega)]; done) | (rw [if_neg (by omega), if_neg (by omega), if_neg (by omega), if_neg (by omega)]; done)
      · first | rfl | (rw [if_pos (by omega)]; done) | (rw [if_neg (by omega)]; done) | (rw [if_neg (by omega), if_pos (by omega)]; done) | (rw [if_neg (by omega), if_neg (by omega)]; done) | (rw [if_neg (by omega), if_neg (by omega), if_pos (by omega)]; done) | (rw [if_neg (by omega), if_neg (by omega), if_neg (by omega)]; done) | (rw [if_neg (by omega), if_neg (by omega), if_neg (by omega), if_pos (by omega)]; done) | (rw [if_neg (by omega), if_neg (by omega), if_neg (by omega), if_neg (by omega)]; done)
    · refine J_iconst 23 dX8_lead_22 rfl ?_
      refine J_iret dX8_lead_23 rfl ?_
      refine ⟨?_, ?_⟩
      · first | rfl | (rw [if_pos (by omega)]; done) | (rw [if_neg (by omega)]; done) | (rw [if_neg (by omega), if_pos (by omega)]; done) | (rw [if_neg (by omega), if_neg (by omega)]; done) | (rw [if_neg (by omega), if_neg (by omega), if_pos (by omega)]; done) | (rw [if_neg (by omega), if_neg (by omega), if_neg (by omega)]; done) | (rw [if_neg (by omega), if_neg (by omega), if_neg (by omega), if_pos (by omega)]; done) | (rw [if_neg (by omega), if_neg (by omega), if_neg (by omega), if_neg (by omega)]; done)
      · first | rfl | (rw [if_pos (by omega)]; done) | (rw [if_neg (by omega)]; done) | (rw [if_neg (by omega), if_pos (by omega)]; done) | (rw [if_neg (by omega), if_neg (by omega)]; done) | (rw [if_neg (by omega), if_neg (by omega), if_pos (by omega)]; done) | (rw [if_neg (by omega), if_neg (by omega), if_neg (by omega)]; done) | (rw [if_neg (by omega), if_neg (by omega), if_neg (by omega), if_pos (by omega)]; done) | (rw [if_neg (by omega), if_neg (by omega), if_neg (by omega), if_neg (by omega)]; done)
theorem c_X8_manner (hx : inR x) : Ct P 2 yX8_manner cX8_manner 3 (some .int) [vr P 0, vi x] σ (rI (if ¬ (0 ≤ x ∧ x ≤ 2) then -2 else if ¬ 0 < σ 1 1 then -3 else σ 1 2) (if (0 ≤ x ∧ x ≤ 2) ∧ 0 < σ 1 1 then jup σ 1 2 x else σ)) := by
  refine Ct.of _ rfl rfl rfl (Nat.le_of_ble_eq_true rfl) (fun hB => ?_)
  refine J_iload_n (i := 1) 1 dX8_manner_0 rfl rfl rfl ?_
  refine J_callSi 4 dX8_manner_1 rfl kX8_159 mX8_isManner (c_X8_isManner) (by first | decide | omega) rfl rfl (Nat.le_of_ble_eq_true rfl) (fun z2 s3 h1 => ?_)
  obtain ⟨rfl, rfl⟩ := h1
  refine J_bif_ne 10 7 dX8_manner_4 rfl rfl (fun c4 => ?_) (fun c4 => ?_)
  · refine J_aload_n (i := 0) 11 dX8_manner_10 rfl rfl rfl ?_
    refine J_getR 14 dX8_manner_11 rfl fX8_14 rfl rfl ?_
    refine J_callVi 17 dX8_manner_14 rfl kX8_162 mX7_stands rfl rfl rfl (c_X7_stands) (by first | decide | omega) rfl rfl (Nat.le_of_ble_eq_true rfl) (fun z6 s7 h5 => ?_)
    obtain ⟨rfl, rfl⟩ := h5
    refine J_bif_ne 23 20 dX8_manner_17 rfl rfl (fun c8 => ?_) (fun c8 => ?_)
    · refine J_aload_n (i := 0) 24 dX8_manner_23 rfl rfl rfl ?_
      refine J_getR 27 dX8_manner_24 rfl fX8_14 rfl rfl ?_
      refine J_getI (jz := 2) (lo := 0) (hi := 2) 30 dX8_manner_27 rfl fX8_166 rfl rfl rfl rfl (fun b9 b10 => ?_)
      refine J_istore_n (i := 2) 31 dX8_manner_30 rfl rfl (by decide) ?_
      refine J_aload_n (i := 0) 32 dX8_manner_31 rfl rfl rfl ?_
      refine J_getR 35 dX8_manner_32 rfl fX8_14 rfl rfl ?_
      refine J_iload_n (i := 1) 36 dX8_manner_35 rfl rfl rfl ?_
      refine J_putI (jz := 2) (lo := 0) (hi := 2) 39 dX8_manner_36 rfl gX8_166 rfl rfl rfl rfl ?_
      refine J_iload_n (i := 2) 40 dX8_manner_39 rfl rfl rfl ?_
      refine J_iret dX8_manner_40 rfl ?_
      refine ⟨?_, ?_⟩
      · first | rfl | (rw [if_pos (by omega)]; done) | (rw [if_neg (by omega)]; done) | (rw [if_neg (by omega), if_pos (by omega)]; done) | (rw [if_neg (by omega), if_neg (by omega)]; done) | (rw [if_neg (by omega), if_neg (by omega), if_pos (by omega)]; done) | (rw [if_neg (by omega), if_neg (by omega), if_neg (by omega)]; done) | (rw [if_neg (by omega), if_neg (by omega), if_neg (by omega), if_pos (by omega)]; done) | (rw [if_neg (by omega), if_neg (by omega), if_neg (by omega), if_neg (by omega)]; done)
      · first | rfl | (rw [if_pos (by omega)]; done) | (rw [if_neg (by omega)]; done) | (rw [if_neg (by omega), if_pos (by omega)]; done) | (rw [if_neg (by omega), if_neg (by omega)]; done) | (rw [if_neg (by omega), if_neg (by omega), if_pos (by omega)]; done) | (rw [if_neg (by omega), if_neg (by omega), if_neg (by omega)]; done) | (rw [if_neg (by omega), if_neg (by omega), if_neg (by omega), if_pos (by omega)]; done) | (rw [if_neg (by omega), if_neg (by omega), if_neg (by omega), if_neg (by omega)]; done)
    · refine J_bipush 22 dX8_manner_20 rfl (by decide) ?_
      refine J_iret dX8_manner_22 rfl ?_
      refine ⟨?_, ?_⟩
      · first | rfl | (rw [if_pos (by omega)]; done) | (rw [if_neg (by omega)]; done) | (rw [if_neg (by omega), if_pos (by omega)]; done) | (rw [if_neg (by omega), if_neg (by omega)]; done) | (rw [if_neg (by omega), if_neg (by omega), if_pos (by omega)]; done) | (rw [if_neg (by omega), if_neg (by omega), if_neg (by omega)]; done) | (rw [if_neg (by omega), if_neg (by omega), if_neg (by omega), if_pos (by omega)]; done) | (rw [if_neg (by omega), if_neg (by omega), if_neg (by omega), if_neg (by omega)]; done)
      · first | rfl | (rw [if_pos (by omega)]; done) | (rw [if_neg (by omega)]; done) | (rw [if_neg (by omega), if_pos (by omega)]; done) | (rw [if_neg (by omega), if_neg (by omega)]; done) | (rw [if_neg (by omega), if_neg (by omega), if_pos (by omega)]; done) | (rw [if_neg (by omega), if_neg (by omega), if_neg (by omega)]; done) | (rw [if_neg (by omega), if_neg (by omega), if_neg (by omega), if_pos (by omega)]; done) | (rw [if_neg (by omega), if_neg (by omega), if_neg (by omega), if_neg (by omega)]; done)
  · refine J_bipush 9 dX8_manner_7 rfl (by decide) ?_
    refine J_iret dX8_manner_9 rfl ?_
    refine ⟨?_, ?_⟩
    · first | rfl | (rw [if_pos (by omega)]; done) | (rw [if_neg (by omega)]; done) | (rw [if_neg (by omega), if_pos (by omega)]; done) | (rw [if_neg (by omega), if_neg (by omega)]; done) | (rw [if_neg (by omega), if_neg (by omega), if_pos (by omega)]; done) | (rw [if_neg (by omega), if_neg (by omega), if_neg (by omega)]; done) | (rw [if_neg (by omega), if_neg (by omega), if_neg (by omega), if_pos (by omega)]; done) | (rw [if_neg (by omega), if_neg (by omega), if_neg (by omega), if_neg (by omega)]; done)
    · first | rfl | (rw [if_pos (by omega)]; done) | (rw [if_neg (by omega)]; done) | (rw [if_neg (by omega), if_pos (by omega)]; done) | (rw [if_neg (by omega), if_neg (by omega)]; done) | (rw [if_neg (by omega), if_neg (by omega), if_pos (by omega)]; done) | (rw [if_neg (by omega), if_neg (by omega), if_neg (by omega)]; done) | (rw [if_neg (by omega), if_neg (by omega), if_neg (by omega), if_pos (by omega)]; done) | (rw [if_neg (by omega), if_neg (by omega), if_neg (by omega), if_neg (by omega)]; done)
theorem c_X8_chalk (hx : inR x) : Ct P 2 yX8_chalk cX8_chalk 3 (some .int) [vr P 0, vi x] σ (rI (if ¬ (0 ≤ x ∧ x ≤ 9) then -2 else if ¬ 0 < σ 1 1 then -3 else σ 1 3) (if (0 ≤ x ∧ x ≤ 9) ∧ 0 < σ 1 1 then jup σ 1 3 x else σ)) := by
  refine Ct.of _ rfl rfl rfl (Nat.le_of_ble_eq_true rfl) (fun hB => ?_)
  refine J_iload_n (i := 1) 1 dX8_chalk_0 rfl rfl rfl ?_
  refine J_callSi 4 dX8_chalk_1 rfl kX8_156 mX8_isDigit (c_X8_isDigit) (by first | decide | omega) rfl rfl (Nat.le_of_ble_eq_true rfl) (fun z2 s3 h1 => ?_)
  obtain ⟨rfl, rfl⟩ := h1
  refine J_bif_ne 10 7 dX8_chalk_4 rfl rfl (fun c4 => ?_) (fun c4 => ?_)
  · refine J_aload_n (i := 0) 11 dX8_chalk_10 rfl rfl rfl ?_
    refine J_getR 14 dX8_chalk_11 rfl fX8_14 rfl rfl ?_
    refine J_callVi 17 dX8_chalk_14 rfl kX8_162 mX7_stands rfl rfl rfl (c_X7_stands) (by first | decide | omega) rfl rfl (Nat.le_of_ble_eq_true rfl) (fun z6 s7 h5 => ?_)
    obtain ⟨rfl, rfl⟩ := h5
    refine J_bif_ne 23 20 dX8_chalk_17 rfl rfl (fun c8 => ?_) (fun c8 => ?_)
    · refine J_aload_n (i := 0) 24 dX8_chalk_23 rfl rfl rfl ?_
      refine J_getR 27 dX8_chalk_24 rfl fX8_14 rfl rfl ?_
      refine J_getI (jz := 3) (lo := 0) (hi := 9) 30 dX8_chalk_27 rfl fX8_169 rfl rfl rfl rfl (fun b9 b10 => ?_)
      refine J_istore_n (i := 2) 31 dX8_chalk_30 rfl rfl (by decide) ?_
      refine J_aload_n (i := 0) 32 dX8_chalk_31 rfl rfl rfl ?_
      refine J_getR 35 dX8_chalk_32 rfl fX8_14 rfl rfl ?_
      refine J_iload_n (i := 1) 36 dX8_chalk_35 rfl rfl rfl ?_
      refine J_putI (jz := 3) (lo := 0) (hi := 9) 39 dX8_chalk_36 rfl gX8_169 rfl rfl rfl rfl ?_
      refine J_iload_n (i := 2) 40 dX8_chalk_39 rfl rfl rfl ?_
      refine J_iret dX8_chalk_40 rfl ?_
      refine ⟨?_, ?_⟩
      · first | rfl | (rw [if_pos (by omega)]; done) | (rw [if_neg (by omega)]; done) | (rw [if_neg (by omega), if_pos (by omega)]; done) | (rw [if_neg (by omega), if_neg (by omega)]; done) | (rw [if_neg (by omega), if_neg (by omega), if_pos (by omega)]; done) | (rw [if_neg (by omega), if_neg (by omega), if_neg (by omega)]; done) | (rw [if_neg (by omega), if_neg (by omega), if_neg (by omega), if_pos (by omega)]; done) | (rw [if_neg (by omega), if_neg (by omega), if_neg (by omega), if_neg (by omega)]; done)
      · first | rfl | (rw [if_pos (by omega)]; done) | (rw [if_neg (by omega)]; done) | (rw [if_neg (by omega), if_pos (by omega)]; done) | (rw [if_neg (by omega), if_neg (by omega)]; done) | (rw [if_neg (by omega), if_neg (by omega), if_pos (by omega)]; done) | (rw [if_neg (by omega), if_neg (by omega), if_neg (by omega)]; done) | (rw [if_neg (by omega), if_neg (by omega), if_neg (by omega), if_pos (by omega)]; done) | (rw [if_neg (by omega), if_neg (by omega), if_neg (by omega), if_neg (by omega)]; done)
    · refine J_bipush 22 dX8_chalk_20 rfl (by decide) ?_
      refine J_iret dX8_chalk_22 rfl ?_
      refine ⟨?_, ?_⟩
      · first | rfl | (rw [if_pos (by omega)]; done) | (rw [if_neg (by omega)]; done) | (rw [if_neg (by omega), if_pos (by omega)]; done) | (rw [if_neg (by omega), if_neg (by omega)]; done) | (rw [if_neg (by omega), if_neg (by omega), if_pos (by omega)]; done) | (rw [if_neg (by omega), if_neg (by omega), if_neg (by omega)]; done) | (rw [if_neg (by omega), if_neg (by omega), if_neg (by omega), if_pos (by omega)]; done) | (rw [if_neg (by omega), if_neg (by omega), if_neg (by omega), if_neg (by omega)]; done)
      · first | rfl | (rw [if_pos (by omega)]; done) | (rw [if_neg (by omega)]; done) | (rw [if_neg (by omega), if_pos (by omega)]; done) | (rw [if_neg (by omega), if_neg (by omega)]; done) | (rw [if_neg (by omega), if_neg (by omega), if_pos (by omega)]; done) | (rw [if_neg (by omega), if_neg (by omega), if_neg (by omega)]; done) | (rw [if_neg (by omega), if_neg (by omega), if_neg (by omega), if_pos (by omega)]; done) | (rw [if_neg (by omega), if_neg (by omega), if_neg (by omega), if_neg (by omega)]; done)
  · refine J_bipush 9 dX8_chalk_7 rfl (by decide) ?_
    refine J_iret dX8_chalk_9 rfl ?_
    refine ⟨?_, ?_⟩
    · first | rfl | (rw [if_pos (by omega)]; done) | (rw [if_neg (by omega)]; done) | (rw [if_neg (by omega), if_pos (by omega)]; done) | (rw [if_neg (by omega), if_neg (by omega)]; done) | (rw [if_neg (by omega), if_neg (by omega), if_pos (by omega)]; done) | (rw [if_neg (by omega), if_neg (by omega), if_neg (by omega)]; done) | (rw [if_neg (by omega), if_neg (by omega), if_neg (by omega), if_pos (by omega)]; done) | (rw [if_neg (by omega), if_neg (by omega), if_neg (by omega), if_neg (by omega)]; done)
    · first | rfl | (rw [if_pos (by omega)]; done) | (rw [if_neg (by omega)]; done) | (rw [if_neg (by omega), if_pos (by omega)]; done) | (rw [if_neg (by omega), if_neg (by omega)]; done) | (rw [if_neg (by omega), if_neg (by omega), if_pos (by omega)]; done) | (rw [if_neg (by omega), if_neg (by omega), if_neg (by omega)]; done) | (rw [if_neg (by omega), if_neg (by omega), if_neg (by omega), if_pos (by omega)]; done) | (rw [if_neg (by omega), if_neg (by omega), if_neg (by omega), if_neg (by omega)]; done)
theorem c_X8_know (hc : inR c) (hx : inR x) : Ct P 2 yX8_know cX8_know 3 (some .int) [vr P 0, vi c, vi x] σ (rI (if ¬ ((0 ≤ c ∧ c < σ 1 1) ∧ (0 ≤ x ∧ x < σ 1 1) ∧ ¬ c = x) then -1 else bitM (ixor (σ 17 c) (2 ^ x.toNat)) x) (if (0 ≤ c ∧ c < σ 1 1) ∧ (0 ≤ x ∧ x < σ 1 1) ∧ ¬ c = x then jup σ 17 c (ixor (σ 17 c) (2 ^ x.toNat)) else σ)) := by
  refine Ct.bd (fun hB => ?_)
  have hn := vC_n hB (w := 1) (Or.inl rfl)
  refine Ct.of _ rfl rfl rfl (Nat.le_of_ble_eq_true rfl) (fun hB => ?_)
  refine J_aload_n (i := 0) 1 dX8_know_0 rfl rfl rfl ?_
  refine J_getR 4 dX8_know_1 rfl fX8_14 rfl rfl ?_
  refine J_iload_n (i := 1) 5 dX8_know_4 rfl rfl rfl ?_
  refine J_callVi 8 dX8_know_5 rfl kX8_109 mX7_hasComer rfl rfl rfl (c_X7_hasComer) (by first | decide | omega) rfl rfl (Nat.le_of_ble_eq_true rfl) (fun z2 s3 h1 => ?_)
  obtain ⟨rfl, rfl⟩ := h1
  refine J_bif_eq 27 11 dX8_know_8 rfl rfl (fun c4 => ?_) (fun c4 => ?_)
  · refine J_iconst 28 dX8_know_27 rfl ?_
    refine J_iret dX8_know_28 rfl ?_
    refine ⟨?_, ?_⟩
    · first | rfl | (rw [if_pos (by omega)]; done) | (rw [if_neg (by omega)]; done) | (rw [if_neg (by omega), if_pos (by omega)]; done) | (rw [if_neg (by omega), if_neg (by omega)]; done) | (rw [if_neg (by omega), if_neg (by omega), if_pos (by omega)]; done) | (rw [if_neg (by omega), if_neg (by omega), if_neg (by omega)]; done) | (rw [if_neg (by omega), if_neg (by omega), if_neg (by omega), if_pos (by omega)]; done) | (rw [if_neg (by omega), if_neg (by omega), if_neg (by omega), if_neg (by omega)]; done)
    · first | rfl | (rw [if_pos (by omega)]; done) | (rw [if_neg (by omega)]; done) | (rw [if_neg (by omega), if_pos (by omega)]; done) | (rw [if_neg (by omega), if_neg (by omega)]; done) | (rw [if_neg (by omega), if_neg (by omega), if_pos (by omega)]; done) | (rw [if_neg (by omega), if_neg (by omega), if_neg (by omega)]; done) | (rw [if_neg (by omega), if_neg (by omega), if_neg (by omega), if_pos (by omega)]; done) | (rw [if_neg (by omega), if_neg (by omega), if_neg (by omega), if_neg (by omega)]; done)
  · refine J_aload_n (i := 0) 12 dX8_know_11 rfl rfl rfl ?_
    refine J_getR 15 dX8_know_12 rfl fX8_14 rfl rfl ?_
    refine J_iload_n (i := 2) 16 dX8_know_15 rfl rfl rfl ?_
    refine J_callVi 19 dX8_know_16 rfl kX8_109 mX7_hasComer rfl rfl rfl (c_X7_hasComer) (by first | decide | omega) rfl rfl (Nat.le_of_ble_eq_true rfl) (fun z6 s7 h5 => ?_)
    obtain ⟨rfl, rfl⟩ := h5
    refine J_bif_eq 27 22 dX8_know_19 rfl rfl (fun c8 => ?_) (fun c8 => ?_)
    · refine J_iconst 28 dX8_know_27 rfl ?_
      refine J_iret dX8_know_28 rfl ?_
      refine ⟨?_, ?_⟩
      · first | rfl | (rw [if_pos (by omega)]; done) | (rw [if_neg (by omega)]; done) | (rw [if_neg (by omega), if_pos (by omega)]; done) | (rw [if_neg (by omega), if_neg (by omega)]; done) | (rw [if_neg (by omega), if_neg (by omega), if_pos (by omega)]; done) | (rw [if_neg (by omega), if_neg (by omega), if_neg (by omega)]; done) | (rw [if_neg (by omega), if_neg (by omega), if_neg (by omega), if_pos (by omega)]; done) | (rw [if_neg (by omega), if_neg (by omega), if_neg (by omega), if_neg (by omega)]; done)
      · first | rfl | (rw [if_pos (by omega)]; done) | (rw [if_neg (by omega)]; done) | (rw [if_neg (by omega), if_pos (by omega)]; done) | (rw [if_neg (by omega), if_neg (by omega)]; done) | (rw [if_neg (by omega), if_neg (by omega), if_pos (by omega)]; done) | (rw [if_neg (by omega), if_neg (by omega), if_neg (by omega)]; done) | (rw [if_neg (by omega), if_neg (by omega), if_neg (by omega), if_pos (by omega)]; done) | (rw [if_neg (by omega), if_neg (by omega), if_neg (by omega), if_neg (by omega)]; done)
    · refine J_iload_n (i := 1) 23 dX8_know_22 rfl rfl rfl ?_
      refine J_iload_n (i := 2) 24 dX8_know_23 rfl rfl rfl ?_
      refine J_icmp_ne 29 27 dX8_know_24 rfl rfl (fun c9 => ?_) (fun c9 => ?_)
      · refine J_aload_n (i := 0) 30 dX8_know_29 rfl rfl rfl ?_
        refine J_getR 33 dX8_know_30 rfl fX8_31 rfl rfl ?_
        refine J_iload_n (i := 1) 34 dX8_know_33 rfl rfl rfl ?_
        refine J_iload_n (i := 2) 35 dX8_know_34 rfl rfl rfl ?_
        refine J_callVi 38 dX8_know_35 rfl kX8_186 mX0_turn rfl rfl rfl (c_X0_turn) (by first | decide | omega) rfl rfl (Nat.le_of_ble_eq_true rfl) (fun z11 s12 h10 => ?_)
        obtain ⟨rfl, rfl⟩ := h10
        refine J_iret dX8_know_38 rfl ?_
        refine ⟨?_, ?_⟩
        · first | rfl | (rw [if_pos (by omega)]; done) | (rw [if_neg (by omega)]; done) | (rw [if_neg (by omega), if_pos (by omega)]; done) | (rw [if_neg (by omega), if_neg (by omega)]; done) | (rw [if_neg (by omega), if_neg (by omega), if_pos (by omega)]; done) | (rw [if_neg (by omega), if_neg (by omega), if_neg (by omega)]; done) | (rw [if_neg (by omega), if_neg (by omega), if_neg (by omega), if_pos (by omega)]; done) | (rw [if_neg (by omega), if_neg (by omega), if_neg (by omega), if_neg (by omega)]; done)
        · first | rfl | (rw [if_pos (by omega)]; done) | (rw [if_neg (by omega)]; done) | (rw [if_neg (by omega), if_pos (by omega)]; done) | (rw [if_neg (by omega), if_neg (by omega)]; done) | (rw [if_neg (by omega), if_neg (by omega), if_pos (by omega)]; done) | (rw [if_neg (by omega), if_neg (by omega), if_neg (by omega)]; done) | (rw [if_neg (by omega), if_neg (by omega), if_neg (by omega), if_pos (by omega)]; done) | (rw [if_neg (by omega), if_neg (by omega), if_neg (by omega), if_neg (by omega)]; done)
      · refine J_iconst 28 dX8_know_27 rfl ?_
        refine J_iret dX8_know_28 rfl ?_
        refine ⟨?_, ?_⟩
        · first | rfl | (rw [if_pos (by omega)]; done) | (rw [if_neg (by omega)]; done) | (rw [if_neg (by omega), if_pos (by omega)]; done) | (rw [if_neg (by omega), if_neg (by omega)]; done) | (rw [if_neg (by omega), if_neg (by omega), if_pos (by omega)]; done) | (rw [if_neg (by omega), if_neg (by omega), if_neg (by omega)]; done) | (rw [if_neg (by omega), if_neg (by omega), if_neg (by omega), if_pos (by omega)]; done) | (rw [if_neg (by omega), if_neg (by omega), if_neg (by omega), if_neg (by omega)]; done)
        · first | rfl | (rw [if_pos (by omega)]; done) | (rw [if_neg (by omega)]; done) | (rw [if_neg (by omega), if_pos (by omega)]; done) | (rw [if_neg (by omega), if_neg (by omega)]; done) | (rw [if_neg (by omega), if_neg (by omega), if_pos (by omega)]; done) | (rw [if_neg (by omega), if_neg (by omega), if_neg (by omega)]; done) | (rw [if_neg (by omega), if_neg (by omega), if_neg (by omega), if_pos (by omega)]; done) | (rw [if_neg (by omega), if_neg (by omega), if_neg (by omega), if_neg (by omega)]; done)
theorem c_X8_far (hc : inR c) (hx : inR x) : Ct P 3 yX8_far cX8_far 3 (some .int) [vr P 0, vi c, vi x] σ (rI (if ¬ ((0 ≤ c ∧ c < σ 1 1) ∧ 0 ≤ x ∧ x < σ 1 1) then -1 else farM (σ 17) c x) σ) := by
  refine Ct.bd (fun hB => ?_)
  have hn := vC_n hB (w := 1) (Or.inl rfl)
  refine Ct.of _ rfl rfl rfl (Nat.le_of_ble_eq_true rfl) (fun hB => ?_)
  refine J_aload_n (i := 0) 1 dX8_far_0 rfl rfl rfl ?_
  refine J_getR 4 dX8_far_1 rfl fX8_14 rfl rfl ?_
  refine J_iload_n (i := 1) 5 dX8_far_4 rfl rfl rfl ?_
  refine J_callVi 8 dX8_far_5 rfl kX8_109 mX7_hasComer rfl rfl rfl (c_X7_hasComer) (by first | decide | omega) rfl rfl (Nat.le_of_ble_eq_true rfl) (fun z2 s3 h1 => ?_)
  obtain ⟨rfl, rfl⟩ := h1
  refine J_bif_eq 22 11 dX8_far_8 rfl rfl (fun c4 => ?_) (fun c4 => ?_)
  · refine J_iconst 23 dX8_far_22 rfl ?_
    refine J_iret dX8_far_23 rfl ?_
    refine ⟨?_, rfl⟩
    first | rfl | (rw [if_pos (by omega)]; done) | (rw [if_neg (by omega)]; done) | (rw [if_neg (by omega), if_pos (by omega)]; done) | (rw [if_neg (by omega), if_neg (by omega)]; done) | (rw [if_neg (by omega), if_neg (by omega), if_pos (by omega)]; done) | (rw [if_neg (by omega), if_neg (by omega), if_neg (by omega)]; done) | (rw [if_neg (by omega), if_neg (by omega), if_neg (by omega), if_pos (by omega)]; done) | (rw [if_neg (by omega), if_neg (by omega), if_neg (by omega), if_neg (by omega)]; done)
  · refine J_aload_n (i := 0) 12 dX8_far_11 rfl rfl rfl ?_
    refine J_getR 15 dX8_far_12 rfl fX8_14 rfl rfl ?_
    refine J_iload_n (i := 2) 16 dX8_far_15 rfl rfl rfl ?_
    refine J_callVi 19 dX8_far_16 rfl kX8_109 mX7_hasComer rfl rfl rfl (c_X7_hasComer) (by first | decide | omega) rfl rfl (Nat.le_of_ble_eq_true rfl) (fun z6 s7 h5 => ?_)
    obtain ⟨rfl, rfl⟩ := h5
    refine J_bif_ne 24 22 dX8_far_19 rfl rfl (fun c8 => ?_) (fun c8 => ?_)
    · refine J_aload_n (i := 0) 25 dX8_far_24 rfl rfl rfl ?_
      refine J_getR 28 dX8_far_25 rfl fX8_31 rfl rfl ?_
      refine J_iload_n (i := 1) 29 dX8_far_28 rfl rfl rfl ?_
      refine J_iload_n (i := 2) 30 dX8_far_29 rfl rfl rfl ?_
      refine J_callVi 33 dX8_far_30 rfl kX8_190 mX0_stepsBetween rfl rfl rfl (c_X0_stepsBetween) (by first | decide | omega) rfl rfl (Nat.le_of_ble_eq_true rfl) (fun z10 s11 h9 => ?_)
      obtain ⟨rfl, rfl⟩ := h9
      refine J_iret dX8_far_33 rfl ?_
      refine ⟨?_, rfl⟩
      first | rfl | (rw [if_pos (by omega)]; done) | (rw [if_neg (by omega)]; done) | (rw [if_neg (by omega), if_pos (by omega)]; done) | (rw [if_neg (by omega), if_neg (by omega)]; done) | (rw [if_neg (by omega), if_neg (by omega), if_pos (by omega)]; done) | (rw [if_neg (by omega), if_neg (by omega), if_neg (by omega)]; done) | (rw [if_neg (by omega), if_neg (by omega), if_neg (by omega), if_pos (by omega)]; done) | (rw [if_neg (by omega), if_neg (by omega), if_neg (by omega), if_neg (by omega)]; done)
    · refine J_iconst 23 dX8_far_22 rfl ?_
      refine J_iret dX8_far_23 rfl ?_
      refine ⟨?_, rfl⟩
      first | rfl | (rw [if_pos (by omega)]; done) | (rw [if_neg (by omega)]; done) | (rw [if_neg (by omega), if_pos (by omega)]; done) | (rw [if_neg (by omega), if_neg (by omega)]; done) | (rw [if_neg (by omega), if_neg (by omega), if_pos (by omega)]; done) | (rw [if_neg (by omega), if_neg (by omega), if_neg (by omega)]; done) | (rw [if_neg (by omega), if_neg (by omega), if_neg (by omega), if_pos (by omega)]; done) | (rw [if_neg (by omega), if_neg (by omega), if_neg (by omega), if_neg (by omega)]; done)
theorem c_X8_lantern (hc : inR c) (hx : inR x) : Ct P 3 yX8_lantern cX8_lantern 3 (some .int) [vr P 0, vi c, vi x] σ (rI (if ¬ ((0 ≤ c ∧ c ≤ 30) ∧ 0 ≤ x ∧ x ≤ 1) then -2 else if ¬ 0 < σ 1 1 then -3 else if x = 0 then sumN (heldF (vC σ 1) c) (nM (vC σ 1)) else sumN (unheldF (vC σ 1) c) (nM (vC σ 1))) σ) := by
  refine Ct.of _ rfl rfl rfl (Nat.le_of_ble_eq_true rfl) (fun hB => ?_)
  refine J_iload_n (i := 1) 1 dX8_lantern_0 rfl rfl rfl ?_
  refine J_if_lt 19 4 dX8_lantern_1 rfl rfl (fun c1 => ?_) (fun c1 => ?_)
  · refine J_bipush 21 dX8_lantern_19 rfl (by decide) ?_
    refine J_iret dX8_lantern_21 rfl ?_
    refine ⟨?_, rfl⟩
    first | rfl | (rw [if_pos (by omega)]; done) | (rw [if_neg (by omega)]; done) | (rw [if_neg (by omega), if_pos (by omega)]; done) | (rw [if_neg (by omega), if_neg (by omega)]; done) | (rw [if_neg (by omega), if_neg (by omega), if_pos (by omega)]; done) | (rw [if_neg (by omega), if_neg (by omega), if_neg (by omega)]; done) | (rw [if_neg (by omega), if_neg (by omega), if_neg (by omega), if_pos (by omega)]; done) | (rw [if_neg (by omega), if_neg (by omega), if_neg (by omega), if_neg (by omega)]; done)
  · refine J_iload_n (i := 1) 5 dX8_lantern_4 rfl rfl rfl ?_
    refine J_bipush 7 dX8_lantern_5 rfl (by decide) ?_
    refine J_icmp_gt 19 10 dX8_lantern_7 rfl rfl (fun c2 => ?_) (fun c2 => ?_)
    · refine J_bipush 21 dX8_lantern_19 rfl (by decide) ?_
      refine J_iret dX8_lantern_21 rfl ?_
      refine ⟨?_, rfl⟩
      first | rfl | (rw [if_pos (by omega)]; done) | (rw [if_neg (by omega)]; done) | (rw [if_neg (by omega), if_pos (by omega)]; done) | (rw [if_neg (by omega), if_neg (by omega)]; done) | (rw [if_neg (by omega), if_neg (by omega), if_pos (by omega)]; done) | (rw [if_neg (by omega), if_neg (by omega), if_neg (by omega)]; done) | (rw [if_neg (by omega), if_neg (by omega), if_neg (by omega), if_pos (by omega)]; done) | (rw [if_neg (by omega), if_neg (by omega), if_neg (by omega), if_neg (by omega)]; done)
    · refine J_iload_n (i := 2) 11 dX8_lantern_10 rfl rfl rfl ?_
      refine J_if_lt 19 14 dX8_lantern_11 rfl rfl (fun c3 => ?_) (fun c3 => ?_)
      · refine J_bipush 21 dX8_lantern_19 rfl (by decide) ?_
        refine J_iret dX8_lantern_21 rfl ?_
        refine ⟨?_, rfl⟩
        first | rfl | (rw [if_pos (by omega)]; done) | (rw [if_neg (by omega)]; done) | (rw [if_neg (by omega), if_pos (by omega)]; done) | (rw [if_neg (by omega), if_neg (by omega)]; done) | (rw [if_neg (by omega), if_neg (by omega), if_pos (by omega)]; done) | (rw [if_neg (by omega), if_neg (by omega), if_neg (by omega)]; done) | (rw [if_neg (by omega), if_neg (by omega), if_neg (by omega), if_pos (by omega)]; done) | (rw [if_neg (by omega), if_neg (by omega), if_neg (by omega), if_neg (by omega)]; done)
      · refine J_iload_n (i := 2) 15 dX8_lantern_14 rfl rfl rfl ?_
        refine J_iconst 16 dX8_lantern_15 rfl ?_
        refine J_icmp_le 22 19 dX8_lantern_16 rfl rfl (fun c4 => ?_) (fun c4 => ?_)
        · refine J_aload_n (i := 0) 23 dX8_lantern_22 rfl rfl rfl ?_
          refine J_getR 26 dX8_lantern_23 rfl fX8_14 rfl rfl ?_
          refine J_callVi 29 dX8_lantern_26 rfl kX8_162 mX7_stands rfl rfl rfl (c_X7_stands) (by first | decide | omega) rfl rfl (Nat.le_of_ble_eq_true rfl) (fun z6 s7 h5 => ?_)
          obtain ⟨rfl, rfl⟩ := h5
          refine J_bif_ne 35 32 dX8_lantern_29 rfl rfl (fun c8 => ?_) (fun c8 => ?_)
          · refine J_iload_n (i := 2) 36 dX8_lantern_35 rfl rfl rfl ?_
            refine J_if_ne 50 39 dX8_lantern_36 rfl rfl (fun c9 => ?_) (fun c9 => ?_)
            · refine J_aload_n (i := 0) 51 dX8_lantern_50 rfl rfl rfl ?_
              refine J_getR 54 dX8_lantern_51 rfl fX8_14 rfl rfl ?_
              refine J_iload_n (i := 1) 55 dX8_lantern_54 rfl rfl rfl ?_
              refine J_callVi 58 dX8_lantern_55 rfl kX8_196 mX7_fedNotHeldSo rfl rfl rfl (c_X7_fedNotHeldSo) (by first | decide | omega) rfl rfl (Nat.le_of_ble_eq_true rfl) (fun z11 s12 h10 => ?_)
              obtain ⟨rfl, rfl⟩ := h10
              refine J_iret dX8_lantern_58 rfl ?_
              refine ⟨?_, rfl⟩
              first | rfl | (rw [if_pos (by omega)]; done) | (rw [if_neg (by omega)]; done) | (rw [if_neg (by omega), if_pos (by omega)]; done) | (rw [if_neg (by omega), if_neg (by omega)]; done) | (rw [if_neg (by omega), if_neg (by omega), if_pos (by omega)]; done) | (rw [if_neg (by omega), if_neg (by omega), if_neg (by omega)]; done) | (rw [if_neg (by omega), if_neg (by omega), if_neg (by omega), if_pos (by omega)]; done) | (rw [if_neg (by omega), if_neg (by omega), if_neg (by omega), if_neg (by omega)]; done)
            · refine J_aload_n (i := 0) 40 dX8_lantern_39 rfl rfl rfl ?_
              refine J_getR 43 dX8_lantern_40 rfl fX8_14 rfl rfl ?_
              refine J_iload_n (i := 1) 44 dX8_lantern_43 rfl rfl rfl ?_
              refine J_callVi 47 dX8_lantern_44 rfl kX8_193 mX7_hungryHeldFed rfl rfl rfl (c_X7_hungryHeldFed) (by first | decide | omega) rfl rfl (Nat.le_of_ble_eq_true rfl) (fun z14 s15 h13 => ?_)
              obtain ⟨rfl, rfl⟩ := h13
              refine J_goto 58 dX8_lantern_47 rfl ?_
              refine J_iret dX8_lantern_58 rfl ?_
              refine ⟨?_, rfl⟩
              first | rfl | (rw [if_pos (by omega)]; done) | (rw [if_neg (by omega)]; done) | (rw [if_neg (by omega), if_pos (by omega)]; done) | (rw [if_neg (by omega), if_neg (by omega)]; done) | (rw [if_neg (by omega), if_neg (by omega), if_pos (by omega)]; done) | (rw [if_neg (by omega), if_neg (by omega), if_neg (by omega)]; done) | (rw [if_neg (by omega), if_neg (by omega), if_neg (by omega), if_pos (by omega)]; done) | (rw [if_neg (by omega), if_neg (by omega), if_neg (by omega), if_neg (by omega)]; done)
          · refine J_bipush 34 dX8_lantern_32 rfl (by decide) ?_
            refine J_iret dX8_lantern_34 rfl ?_
            refine ⟨?_, rfl⟩
            first | rfl | (rw [if_pos (by omega)]; done) | (rw [if_neg (by omega)]; done) | (rw [if_neg (by omega), if_pos (by omega)]; done) | (rw [if_neg (by omega), if_neg (by omega)]; done) | (rw [if_neg (by omega), if_neg (by omega), if_pos (by omega)]; done) | (rw [if_neg (by omega), if_neg (by omega), if_neg (by omega)]; done) | (rw [if_neg (by omega), if_neg (by omega), if_neg (by omega), if_pos (by omega)]; done) | (rw [if_neg (by omega), if_neg (by omega), if_neg (by omega), if_neg (by omega)]; done)
        · refine J_bipush 21 dX8_lantern_19 rfl (by decide) ?_
          refine J_iret dX8_lantern_21 rfl ?_
          refine ⟨?_, rfl⟩
          first | rfl | (rw [if_pos (by omega)]; done) | (rw [if_neg (by omega)]; done) | (rw [if_neg (by omega), if_pos (by omega)]; done) | (rw [if_neg (by omega), if_neg (by omega)]; done) | (rw [if_neg (by omega), if_neg (by omega), if_pos (by omega)]; done) | (rw [if_neg (by omega), if_neg (by omega), if_neg (by omega)]; done) | (rw [if_neg (by omega), if_neg (by omega), if_neg (by omega), if_pos (by omega)]; done) | (rw [if_neg (by omega), if_neg (by omega), if_neg (by omega), if_neg (by omega)]; done)
theorem c_X8_given : Ct P 11 yX8_given cX8_given 1 (some .int) [vr P 0] σ (qi fun z σ' => (if ¬ 0 < σ 1 1 then -3 else giveM (vC σ 1) (σ 17)) = z ∧ ∀ q, q ≠ 19 → σ' q = σ q) := by
  refine Ct.of _ rfl rfl rfl (Nat.le_of_ble_eq_true rfl) (fun hB => ?_)
  refine J_aload_n (i := 0) 1 dX8_given_0 rfl rfl rfl ?_
  refine J_getR 4 dX8_given_1 rfl fX8_14 rfl rfl ?_
  refine J_callVi 7 dX8_given_4 rfl kX8_162 mX7_stands rfl rfl rfl (c_X7_stands) (by first | decide | omega) rfl rfl (Nat.le_of_ble_eq_true rfl) (fun z2 s3 h1 => ?_)
  obtain ⟨rfl, rfl⟩ := h1
  refine J_bif_ne 13 10 dX8_given_7 rfl rfl (fun c4 => ?_) (fun c4 => ?_)
  · refine J_aload_n (i := 0) 14 dX8_given_13 rfl rfl rfl ?_
    refine J_getR 17 dX8_given_14 rfl fX8_38 rfl rfl ?_
    refine J_aload_n (i := 0) 18 dX8_given_17 rfl rfl rfl ?_
    refine J_getR 21 dX8_given_18 rfl fX8_14 rfl rfl ?_
    refine J_aload_n (i := 0) 22 dX8_given_21 rfl rfl rfl ?_
    refine J_getR 25 dX8_given_22 rfl fX8_31 rfl rfl ?_
    refine J_callVi 28 dX8_given_25 rfl kX8_220 mX1_fewestSteps rfl rfl rfl (c_X1_fewestSteps) (by first | decide | omega) rfl rfl (Nat.le_of_ble_eq_true rfl) (fun z6 s7 h5 => ?_)
    obtain ⟨rfl, q2⟩ := h5
    refine J_iret dX8_given_28 rfl ?_
    first | exact ⟨if_pos (by omega), fun _ _ => rfl⟩ | exact ⟨if_neg (by omega), q2⟩
  · refine J_bipush 12 dX8_given_10 rfl (by decide) ?_
    refine J_iret dX8_given_12 rfl ?_
    first | exact ⟨if_pos (by omega), fun _ _ => rfl⟩ | exact ⟨if_neg (by omega), q2⟩
theorem c_X8_reading (hc : inR c) (hx : inR x) : Ct P 2 yX8_reading cX8_reading 3 (some .int) [vr P 0, vi c, vi x] σ (rI (aDig (σ 1 1) c x (if 8 ≤ σ 24 2 then -4 else σ 24 2)) (if (0 ≤ c ∧ c < σ 1 1) ∧ 0 ≤ x ∧ x ≤ 9 then (if 8 ≤ σ 24 2 then σ else jup (jup (jup σ 25 (σ 24 2) c) 26 (σ 24 2) x) 24 2 (σ 24 2 + 1)) else σ)) := by
  refine Ct.bd (fun hB => ?_)
  have hn := vC_n hB (w := 1) (Or.inl rfl)
  refine Ct.of _ rfl rfl rfl (Nat.le_of_ble_eq_true rfl) (fun hB => ?_)
  refine J_aload_n (i := 0) 1 dX8_reading_0 rfl rfl rfl ?_
  refine J_getR 4 dX8_reading_1 rfl fX8_14 rfl rfl ?_
  refine J_iload_n (i := 1) 5 dX8_reading_4 rfl rfl rfl ?_
  refine J_callVi 8 dX8_reading_5 rfl kX8_109 mX7_hasComer rfl rfl rfl (c_X7_hasComer) (by first | decide | omega) rfl rfl (Nat.le_of_ble_eq_true rfl) (fun z2 s3 h1 => ?_)
  obtain ⟨rfl, rfl⟩ := h1
  refine J_bif_ne 13 11 dX8_reading_8 rfl rfl (fun c4 => ?_) (fun c4 => ?_)
  · refine J_iload_n (i := 2) 14 dX8_reading_13 rfl rfl rfl ?_
    refine J_callSi 17 dX8_reading_14 rfl kX8_156 mX8_isDigit (c_X8_isDigit) (by first | decide | omega) rfl rfl (Nat.le_of_ble_eq_true rfl) (fun z6 s7 h5 => ?_)
    obtain ⟨rfl, rfl⟩ := h5
    refine J_bif_ne 23 20 dX8_reading_17 rfl rfl (fun c8 => ?_) (fun c8 => ?_)
    · refine J_aload_n (i := 0) 24 dX8_reading_23 rfl rfl rfl ?_
      refine J_getR 27 dX8_reading_24 rfl fX8_59 rfl rfl ?_
      refine J_iload_n (i := 1) 28 dX8_reading_27 rfl rfl rfl ?_
      refine J_iload_n (i := 2) 29 dX8_reading_28 rfl rfl rfl ?_
      refine J_callVi 32 dX8_reading_29 rfl kX8_241 mX3_note rfl rfl rfl (c_X3_note) (by first | decide | omega) rfl rfl (Nat.le_of_ble_eq_true rfl) (fun z10 s11 h9 => ?_)
      obtain ⟨rfl, rfl⟩ := h9
      refine J_iret dX8_reading_32 rfl ?_
      refine ⟨?_, ?_⟩
      · unfold aDig
        first | rfl | (rw [if_pos (by omega)]; done) | (rw [if_neg (by omega)]; done) | (rw [if_neg (by omega), if_pos (by omega)]; done) | (rw [if_neg (by omega), if_neg (by omega)]; done) | (rw [if_neg (by omega), if_neg (by omega), if_pos (by omega)]; done) | (rw [if_neg (by omega), if_neg (by omega), if_neg (by omega)]; done) | (rw [if_neg (by omega), if_neg (by omega), if_neg (by omega), if_pos (by omega)]; done) | (rw [if_neg (by omega), if_neg (by omega), if_neg (by omega), if_neg (by omega)]; done)
      · first | rfl | (rw [if_pos (by omega)]; done) | (rw [if_neg (by omega)]; done) | (rw [if_neg (by omega), if_pos (by omega)]; done) | (rw [if_neg (by omega), if_neg (by omega)]; done) | (rw [if_neg (by omega), if_neg (by omega), if_pos (by omega)]; done) | (rw [if_neg (by omega), if_neg (by omega), if_neg (by omega)]; done) | (rw [if_neg (by omega), if_neg (by omega), if_neg (by omega), if_pos (by omega)]; done) | (rw [if_neg (by omega), if_neg (by omega), if_neg (by omega), if_neg (by omega)]; done)
    · refine J_bipush 22 dX8_reading_20 rfl (by decide) ?_
      refine J_iret dX8_reading_22 rfl ?_
      refine ⟨?_, ?_⟩
      · unfold aDig
        first | rfl | (rw [if_pos (by omega)]; done) | (rw [if_neg (by omega)]; done) | (rw [if_neg (by omega), if_pos (by omega)]; done) | (rw [if_neg (by omega), if_neg (by omega)]; done) | (rw [if_neg (by omega), if_neg (by omega), if_pos (by omega)]; done) | (rw [if_neg (by omega), if_neg (by omega), if_neg (by omega)]; done) | (rw [if_neg (by omega), if_neg (by omega), if_neg (by omega), if_pos (by omega)]; done) | (rw [if_neg (by omega), if_neg (by omega), if_neg (by omega), if_neg (by omega)]; done)
      · first | rfl | (rw [if_pos (by omega)]; done) | (rw [if_neg (by omega)]; done) | (rw [if_neg (by omega), if_pos (by omega)]; done) | (rw [if_neg (by omega), if_neg (by omega)]; done) | (rw [if_neg (by omega), if_neg (by omega), if_pos (by omega)]; done) | (rw [if_neg (by omega), if_neg (by omega), if_neg (by omega)]; done) | (rw [if_neg (by omega), if_neg (by omega), if_neg (by omega), if_pos (by omega)]; done) | (rw [if_neg (by omega), if_neg (by omega), if_neg (by omega), if_neg (by omega)]; done)
  · refine J_iconst 12 dX8_reading_11 rfl ?_
    refine J_iret dX8_reading_12 rfl ?_
    refine ⟨?_, ?_⟩
    · unfold aDig
      first | rfl | (rw [if_pos (by omega)]; done) | (rw [if_neg (by omega)]; done) | (rw [if_neg (by omega), if_pos (by omega)]; done) | (rw [if_neg (by omega), if_neg (by omega)]; done) | (rw [if_neg (by omega), if_neg (by omega), if_pos (by omega)]; done) | (rw [if_neg (by omega), if_neg (by omega), if_neg (by omega)]; done) | (rw [if_neg (by omega), if_neg (by omega), if_neg (by omega), if_pos (by omega)]; done) | (rw [if_neg (by omega), if_neg (by omega), if_neg (by omega), if_neg (by omega)]; done)
    · first | rfl | (rw [if_pos (by omega)]; done) | (rw [if_neg (by omega)]; done) | (rw [if_neg (by omega), if_pos (by omega)]; done) | (rw [if_neg (by omega), if_neg (by omega)]; done) | (rw [if_neg (by omega), if_neg (by omega), if_pos (by omega)]; done) | (rw [if_neg (by omega), if_neg (by omega), if_neg (by omega)]; done) | (rw [if_neg (by omega), if_neg (by omega), if_neg (by omega), if_pos (by omega)]; done) | (rw [if_neg (by omega), if_neg (by omega), if_neg (by omega), if_neg (by omega)]; done)
theorem c_X8_back (hx : inR x) : Ct P 1 yX8_back cX8_back 2 (some .int) [vr P 0, vi x] σ (rI (if ¬ (0 ≤ x ∧ x ≤ σ 24 2) then -2 else σ 24 2 - x) (if 0 ≤ x ∧ x ≤ σ 24 2 then jup σ 24 2 (σ 24 2 - x) else σ)) := by
  refine Ct.of _ rfl rfl rfl (Nat.le_of_ble_eq_true rfl) (fun hB => ?_)
  refine J_iload_n (i := 1) 1 dX8_back_0 rfl rfl rfl ?_
  refine J_if_lt 15 4 dX8_back_1 rfl rfl (fun c1 => ?_) (fun c1 => ?_)
  · refine J_bipush 17 dX8_back_15 rfl (by decide) ?_
    refine J_iret dX8_back_17 rfl ?_
    refine ⟨?_, ?_⟩
    · first | rfl | (rw [if_pos (by omega)]; done) | (rw [if_neg (by omega)]; done) | (rw [if_neg (by omega), if_pos (by omega)]; done) | (rw [if_neg (by omega), if_neg (by omega)]; done) | (rw [if_neg (by omega), if_neg (by omega), if_pos (by omega)]; done) | (rw [if_neg (by omega), if_neg (by omega), if_neg (by omega)]; done) | (rw [if_neg (by omega), if_neg (by omega), if_neg (by omega), if_pos (by omega)]; done) | (rw [if_neg (by omega), if_neg (by omega), if_neg (by omega), if_neg (by omega)]; done)
    · first | rfl | (rw [if_pos (by omega)]; done) | (rw [if_neg (by omega)]; done) | (rw [if_neg (by omega), if_pos (by omega)]; done) | (rw [if_neg (by omega), if_neg (by omega)]; done) | (rw [if_neg (by omega), if_neg (by omega), if_pos (by omega)]; done) | (rw [if_neg (by omega), if_neg (by omega), if_neg (by omega)]; done) | (rw [if_neg (by omega), if_neg (by omega), if_neg (by omega), if_pos (by omega)]; done) | (rw [if_neg (by omega), if_neg (by omega), if_neg (by omega), if_neg (by omega)]; done)
  · refine J_iload_n (i := 1) 5 dX8_back_4 rfl rfl rfl ?_
    refine J_aload_n (i := 0) 6 dX8_back_5 rfl rfl rfl ?_
    refine J_getR 9 dX8_back_6 rfl fX8_59 rfl rfl ?_
    refine J_getI (jz := 2) (lo := 0) (hi := 8) 12 dX8_back_9 rfl fX8_103 rfl rfl rfl rfl (fun b2 b3 => ?_)
    refine J_icmp_le 18 15 dX8_back_12 rfl rfl (fun c4 => ?_) (fun c4 => ?_)
    · refine J_aload_n (i := 0) 19 dX8_back_18 rfl rfl rfl ?_
      refine J_getR 22 dX8_back_19 rfl fX8_59 rfl rfl ?_
      refine J_dup 23 dX8_back_22 rfl rfl ?_
      refine J_getI (jz := 2) (lo := 0) (hi := 8) 26 dX8_back_23 rfl fX8_103 rfl rfl rfl rfl (fun b5 b6 => ?_)
      refine J_iload_n (i := 1) 27 dX8_back_26 rfl rfl rfl ?_
      refine J_isub 28 dX8_back_27 rfl ?_
      refine J_putI (jz := 2) (lo := 0) (hi := 8) 31 dX8_back_28 rfl gX8_103 rfl rfl rfl rfl ?_
      refine J_aload_n (i := 0) 32 dX8_back_31 rfl rfl rfl ?_
      refine J_getR 35 dX8_back_32 rfl fX8_59 rfl rfl ?_
      refine J_getI (jz := 2) (lo := 0) (hi := 8) 38 dX8_back_35 rfl fX8_103 rfl rfl rfl rfl (fun b7 b8 => ?_)
      try simp +decide only [jup, jset, ↓reduceIte] at b7 b8 ⊢
      refine J_iret dX8_back_38 rfl ?_
      refine ⟨?_, ?_⟩
      · first | rfl | (rw [if_pos (by omega)]; done) | (rw [if_neg (by omega)]; done) | (rw [if_neg (by omega), if_pos (by omega)]; done) | (rw [if_neg (by omega), if_neg (by omega)]; done) | (rw [if_neg (by omega), if_neg (by omega), if_pos (by omega)]; done) | (rw [if_neg (by omega), if_neg (by omega), if_neg (by omega)]; done) | (rw [if_neg (by omega), if_neg (by omega), if_neg (by omega), if_pos (by omega)]; done) | (rw [if_neg (by omega), if_neg (by omega), if_neg (by omega), if_neg (by omega)]; done)
      · first | rfl | (rw [if_pos (by omega)]; done) | (rw [if_neg (by omega)]; done) | (rw [if_neg (by omega), if_pos (by omega)]; done) | (rw [if_neg (by omega), if_neg (by omega)]; done) | (rw [if_neg (by omega), if_neg (by omega), if_pos (by omega)]; done) | (rw [if_neg (by omega), if_neg (by omega), if_neg (by omega)]; done) | (rw [if_neg (by omega), if_neg (by omega), if_neg (by omega), if_pos (by omega)]; done) | (rw [if_neg (by omega), if_neg (by omega), if_neg (by omega), if_neg (by omega)]; done)
    · refine J_bipush 17 dX8_back_15 rfl (by decide) ?_
      refine J_iret dX8_back_17 rfl ?_
      refine ⟨?_, ?_⟩
      · first | rfl | (rw [if_pos (by omega)]; done) | (rw [if_neg (by omega)]; done) | (rw [if_neg (by omega), if_pos (by omega)]; done) | (rw [if_neg (by omega), if_neg (by omega)]; done) | (rw [if_neg (by omega), if_neg (by omega), if_pos (by omega)]; done) | (rw [if_neg (by omega), if_neg (by omega), if_neg (by omega)]; done) | (rw [if_neg (by omega), if_neg (by omega), if_neg (by omega), if_pos (by omega)]; done) | (rw [if_neg (by omega), if_neg (by omega), if_neg (by omega), if_neg (by omega)]; done)
      · first | rfl | (rw [if_pos (by omega)]; done) | (rw [if_neg (by omega)]; done) | (rw [if_neg (by omega), if_pos (by omega)]; done) | (rw [if_neg (by omega), if_neg (by omega)]; done) | (rw [if_neg (by omega), if_neg (by omega), if_pos (by omega)]; done) | (rw [if_neg (by omega), if_neg (by omega), if_neg (by omega)]; done) | (rw [if_neg (by omega), if_neg (by omega), if_neg (by omega), if_pos (by omega)]; done) | (rw [if_neg (by omega), if_neg (by omega), if_neg (by omega), if_neg (by omega)]; done)
theorem c_X8_tell (hc : inR c) : Ct P 5 yX8_tell cX8_tell 2 (some .int) [vr P 0, vi c] σ (rI (if ¬ (0 ≤ c ∧ c < σ 1 1) then -1 else if σ 3 c = 2 then σ 5 c + 100 + σ 5 c else if σ 3 c = 1 then σ 5 c + 100 else σ 5 c) (if ¬ (0 ≤ c ∧ c < σ 1 1) then σ else if σ 3 c = 2 then jup σ 0 9 (trc (trc (trc (trc (σ 0 9) 3) 2) 1) 1) else if σ 3 c = 1 then jup σ 0 9 (trc (trc (σ 0 9) 2) 1) else jup σ 0 9 (trc (σ 0 9) 1))) := by
  refine Ct.bd (fun hB => ?_)
  have hn := vC_n hB (w := 1) (Or.inl rfl)
  refine Ct.of _ rfl rfl rfl (Nat.le_of_ble_eq_true rfl) (fun hB => ?_)
  refine J_aload_n (i := 0) 1 dX8_tell_0 rfl rfl rfl ?_
  refine J_getR 4 dX8_tell_1 rfl fX8_14 rfl rfl ?_
  refine J_iload_n (i := 1) 5 dX8_tell_4 rfl rfl rfl ?_
  refine J_callVi 8 dX8_tell_5 rfl kX8_109 mX7_hasComer rfl rfl rfl (c_X7_hasComer) (by first | decide | omega) rfl rfl (Nat.le_of_ble_eq_true rfl) (fun z2 s3 h1 => ?_)
  obtain ⟨rfl, rfl⟩ := h1
  refine J_bif_ne 13 11 dX8_tell_8 rfl rfl (fun c4 => ?_) (fun c4 => ?_)
  · refine J_aload_n (i := 0) 14 dX8_tell_13 rfl rfl rfl ?_
    refine J_getR 17 dX8_tell_14 rfl fX8_14 rfl rfl ?_
    refine J_getR 20 dX8_tell_17 rfl fX8_112 rfl rfl ?_
    refine J_iload_n (i := 1) 21 dX8_tell_20 rfl rfl rfl ?_
    refine J_iald (N := 6) (lo := 0) (hi := 2) 22 dX8_tell_21 rfl rfl rfl rfl (fun b5 b6 => ?_)
    refine J_iconst 23 dX8_tell_22 rfl ?_
    refine J_icmp_ne 32 26 dX8_tell_23 rfl rfl (fun c7 => ?_) (fun c7 => ?_)
    · refine J_aload_n (i := 0) 33 dX8_tell_32 rfl rfl rfl ?_
      refine J_getR 36 dX8_tell_33 rfl fX8_14 rfl rfl ?_
      refine J_getR 39 dX8_tell_36 rfl fX8_112 rfl rfl ?_
      refine J_iload_n (i := 1) 40 dX8_tell_39 rfl rfl rfl ?_
      refine J_iald (N := 6) (lo := 0) (hi := 2) 41 dX8_tell_40 rfl rfl rfl rfl (fun b8 b9 => ?_)
      refine J_iconst 42 dX8_tell_41 rfl ?_
      refine J_icmp_ne 53 45 dX8_tell_42 rfl rfl (fun c10 => ?_) (fun c10 => ?_)
      · refine J_aload_n (i := 0) 54 dX8_tell_53 rfl rfl rfl ?_
        refine J_iload_n (i := 1) 55 dX8_tell_54 rfl rfl rfl ?_
        refine J_callVi 58 dX8_tell_55 rfl kX8_291 mX8_tellPlain rfl rfl rfl (c_X8_tellPlain) (by first | decide | omega) rfl rfl (Nat.le_of_ble_eq_true rfl) (fun z12 s13 h11 => ?_)
        obtain ⟨rfl, rfl⟩ := h11
        refine J_iret dX8_tell_58 rfl ?_
        refine ⟨?_, ?_⟩
        · first | rfl | (rw [if_pos (by omega)]; done) | (rw [if_neg (by omega)]; done) | (rw [if_neg (by omega), if_pos (by omega)]; done) | (rw [if_neg (by omega), if_neg (by omega)]; done) | (rw [if_neg (by omega), if_neg (by omega), if_pos (by omega)]; done) | (rw [if_neg (by omega), if_neg (by omega), if_neg (by omega)]; done) | (rw [if_neg (by omega), if_neg (by omega), if_neg (by omega), if_pos (by omega)]; done) | (rw [if_neg (by omega), if_neg (by omega), if_neg (by omega), if_neg (by omega)]; done)
        · first | rfl | (rw [if_pos (by omega)]; done) | (rw [if_neg (by omega)]; done) | (rw [if_neg (by omega), if_pos (by omega)]; done) | (rw [if_neg (by omega), if_neg (by omega)]; done) | (rw [if_neg (by omega), if_neg (by omega), if_pos (by omega)]; done) | (rw [if_neg (by omega), if_neg (by omega), if_neg (by omega)]; done) | (rw [if_neg (by omega), if_neg (by omega), if_neg (by omega), if_pos (by omega)]; done) | (rw [if_neg (by omega), if_neg (by omega), if_neg (by omega), if_neg (by omega)]; done)
      · refine J_aload_n (i := 0) 46 dX8_tell_45 rfl rfl rfl ?_
        refine J_iload_n (i := 1) 47 dX8_tell_46 rfl rfl rfl ?_
        refine J_callVi 50 dX8_tell_47 rfl kX8_288 mX8_tellChalked rfl rfl rfl (c_X8_tellChalked) (by first | decide | omega) rfl rfl (Nat.le_of_ble_eq_true rfl) (fun z15 s16 h14 => ?_)
        obtain ⟨rfl, rfl⟩ := h14
        refine J_goto 58 dX8_tell_50 rfl ?_
        refine J_iret dX8_tell_58 rfl ?_
        refine ⟨?_, ?_⟩
        · first | rfl | (rw [if_pos (by omega)]; done) | (rw [if_neg (by omega)]; done) | (rw [if_neg (by omega), if_pos (by omega)]; done) | (rw [if_neg (by omega), if_neg (by omega)]; done) | (rw [if_neg (by omega), if_neg (by omega), if_pos (by omega)]; done) | (rw [if_neg (by omega), if_neg (by omega), if_neg (by omega)]; done) | (rw [if_neg (by omega), if_neg (by omega), if_neg (by omega), if_pos (by omega)]; done) | (rw [if_neg (by omega), if_neg (by omega), if_neg (by omega), if_neg (by omega)]; done)
        · first | rfl | (rw [if_pos (by omega)]; done) | (rw [if_neg (by omega)]; done) | (rw [if_neg (by omega), if_pos (by omega)]; done) | (rw [if_neg (by omega), if_neg (by omega)]; done) | (rw [if_neg (by omega), if_neg (by omega), if_pos (by omega)]; done) | (rw [if_neg (by omega), if_neg (by omega), if_neg (by omega)]; done) | (rw [if_neg (by omega), if_neg (by omega), if_neg (by omega), if_pos (by omega)]; done) | (rw [if_neg (by omega), if_neg (by omega), if_neg (by omega), if_neg (by omega)]; done)
    · refine J_aload_n (i := 0) 27 dX8_tell_26 rfl rfl rfl ?_
      refine J_iload_n (i := 1) 28 dX8_tell_27 rfl rfl rfl ?_
      refine J_callVi 31 dX8_tell_28 rfl kX8_285 mX8_tellGrand rfl rfl rfl (c_X8_tellGrand) (by first | decide | omega) rfl rfl (Nat.le_of_ble_eq_true rfl) (fun z18 s19 h17 => ?_)
      obtain ⟨rfl, rfl⟩ := h17
      refine J_iret dX8_tell_31 rfl ?_
      refine ⟨?_, ?_⟩
      · first | rfl | (rw [if_pos (by omega)]; done) | (rw [if_neg (by omega)]; done) | (rw [if_neg (by omega), if_pos (by omega)]; done) | (rw [if_neg (by omega), if_neg (by omega)]; done) | (rw [if_neg (by omega), if_neg (by omega), if_pos (by omega)]; done) | (rw [if_neg (by omega), if_neg (by omega), if_neg (by omega)]; done) | (rw [if_neg (by omega), if_neg (by omega), if_neg (by omega), if_pos (by omega)]; done) | (rw [if_neg (by omega), if_neg (by omega), if_neg (by omega), if_neg (by omega)]; done)
      · first | rfl | (rw [if_pos (by omega)]; done) | (rw [if_neg (by omega)]; done) | (rw [if_neg (by omega), if_pos (by omega)]; done) | (rw [if_neg (by omega), if_neg (by omega)]; done) | (rw [if_neg (by omega), if_neg (by omega), if_pos (by omega)]; done) | (rw [if_neg (by omega), if_neg (by omega), if_neg (by omega)]; done) | (rw [if_neg (by omega), if_neg (by omega), if_neg (by omega), if_pos (by omega)]; done) | (rw [if_neg (by omega), if_neg (by omega), if_neg (by omega), if_neg (by omega)]; done)
  · refine J_iconst 12 dX8_tell_11 rfl ?_
    refine J_iret dX8_tell_12 rfl ?_
    refine ⟨?_, ?_⟩
    · first | rfl | (rw [if_pos (by omega)]; done) | (rw [if_neg (by omega)]; done) | (rw [if_neg (by omega), if_pos (by omega)]; done) | (rw [if_neg (by omega), if_neg (by omega)]; done) | (rw [if_neg (by omega), if_neg (by omega), if_pos (by omega)]; done) | (rw [if_neg (by omega), if_neg (by omega), if_neg (by omega)]; done) | (rw [if_neg (by omega), if_neg (by omega), if_neg (by omega), if_pos (by omega)]; done) | (rw [if_neg (by omega), if_neg (by omega), if_neg (by omega), if_neg (by omega)]; done)
    · first | rfl | (rw [if_pos (by omega)]; done) | (rw [if_neg (by omega)]; done) | (rw [if_neg (by omega), if_pos (by omega)]; done) | (rw [if_neg (by omega), if_neg (by omega)]; done) | (rw [if_neg (by omega), if_neg (by omega), if_pos (by omega)]; done) | (rw [if_neg (by omega), if_neg (by omega), if_neg (by omega)]; done) | (rw [if_neg (by omega), if_neg (by omega), if_neg (by omega), if_pos (by omega)]; done) | (rw [if_neg (by omega), if_neg (by omega), if_neg (by omega), if_neg (by omega)]; done)
theorem c_X8_greet (hc : inR c) : Ct P 3 yX8_greet cX8_greet 2 (some .int) [vr P 0, vi c] σ (rI (if ¬ (0 ≤ c ∧ c < σ 1 1) then -1 else if σ 3 c = 2 then 60 else σ 4 c) (if ¬ (0 ≤ c ∧ c < σ 1 1) then σ else if σ 3 c = 2 then jup σ 0 9 (trc (σ 0 9) 5) else jup σ 0 9 (trc (σ 0 9) 4))) := by
  refine Ct.bd (fun hB => ?_)
  have hn := vC_n hB (w := 1) (Or.inl rfl)
  refine Ct.of _ rfl rfl rfl (Nat.le_of_ble_eq_true rfl) (fun hB => ?_)
  refine J_aload_n (i := 0) 1 dX8_greet_0 rfl rfl rfl ?_
  refine J_getR 4 dX8_greet_1 rfl fX8_14 rfl rfl ?_
  refine J_iload_n (i := 1) 5 dX8_greet_4 rfl rfl rfl ?_
  refine J_callVi 8 dX8_greet_5 rfl kX8_109 mX7_hasComer rfl rfl rfl (c_X7_hasComer) (by first | decide | omega) rfl rfl (Nat.le_of_ble_eq_true rfl) (fun z2 s3 h1 => ?_)
  obtain ⟨rfl, rfl⟩ := h1
  refine J_bif_ne 13 11 dX8_greet_8 rfl rfl (fun c4 => ?_) (fun c4 => ?_)
  · refine J_aload_n (i := 0) 14 dX8_greet_13 rfl rfl rfl ?_
    refine J_getR 17 dX8_greet_14 rfl fX8_14 rfl rfl ?_
    refine J_getR 20 dX8_greet_17 rfl fX8_112 rfl rfl ?_
    refine J_iload_n (i := 1) 21 dX8_greet_20 rfl rfl rfl ?_
    refine J_iald (N := 6) (lo := 0) (hi := 2) 22 dX8_greet_21 rfl rfl rfl rfl (fun b5 b6 => ?_)
    refine J_iconst 23 dX8_greet_22 rfl ?_
    refine J_icmp_ne 33 26 dX8_greet_23 rfl rfl (fun c7 => ?_) (fun c7 => ?_)
    · refine J_aload_n (i := 0) 34 dX8_greet_33 rfl rfl rfl ?_
      refine J_iload_n (i := 1) 35 dX8_greet_34 rfl rfl rfl ?_
      refine J_callVi 38 dX8_greet_35 rfl kX8_297 mX8_greetLent rfl rfl rfl (c_X8_greetLent) (by first | decide | omega) rfl rfl (Nat.le_of_ble_eq_true rfl) (fun z9 s10 h8 => ?_)
      obtain ⟨rfl, rfl⟩ := h8
      refine J_iret dX8_greet_38 rfl ?_
      refine ⟨?_, ?_⟩
      · first | rfl | (rw [if_pos (by omega)]; done) | (rw [if_neg (by omega)]; done) | (rw [if_neg (by omega), if_pos (by omega)]; done) | (rw [if_neg (by omega), if_neg (by omega)]; done) | (rw [if_neg (by omega), if_neg (by omega), if_pos (by omega)]; done) | (rw [if_neg (by omega), if_neg (by omega), if_neg (by omega)]; done) | (rw [if_neg (by omega), if_neg (by omega), if_neg (by omega), if_pos (by omega)]; done) | (rw [if_neg (by omega), if_neg (by omega), if_neg (by omega), if_neg (by omega)]; done)
      · first | rfl | (rw [if_pos (by omega)]; done) | (rw [if_neg (by omega)]; done) | (rw [if_neg (by omega), if_pos (by omega)]; done) | (rw [if_neg (by omega), if_neg (by omega)]; done) | (rw [if_neg (by omega), if_neg (by omega), if_pos (by omega)]; done) | (rw [if_neg (by omega), if_neg (by omega), if_neg (by omega)]; done) | (rw [if_neg (by omega), if_neg (by omega), if_neg (by omega), if_pos (by omega)]; done) | (rw [if_neg (by omega), if_neg (by omega), if_neg (by omega), if_neg (by omega)]; done)
    · refine J_aload_n (i := 0) 27 dX8_greet_26 rfl rfl rfl ?_
      refine J_callVi 30 dX8_greet_27 rfl kX8_294 mX8_greetGrand rfl rfl rfl (c_X8_greetGrand) (by first | decide | omega) rfl rfl (Nat.le_of_ble_eq_true rfl) (fun z12 s13 h11 => ?_)
      obtain ⟨rfl, rfl⟩ := h11
      refine J_goto 38 dX8_greet_30 rfl ?_
      refine J_iret dX8_greet_38 rfl ?_
      refine ⟨?_, ?_⟩
      · first | rfl | (rw [if_pos (by omega)]; done) | (rw [if_neg (by omega)]; done) | (rw [if_neg (by omega), if_pos (by omega)]; done) | (rw [if_neg (by omega), if_neg (by omega)]; done) | (rw [if_neg (by omega), if_neg (by omega), if_pos (by omega)]; done) | (rw [if_neg (by omega), if_neg (by omega), if_neg (by omega)]; done) | (rw [if_neg (by omega), if_neg (by omega), if_neg (by omega), if_pos (by omega)]; done) | (rw [if_neg (by omega), if_neg (by omega), if_neg (by omega), if_neg (by omega)]; done)
      · first | rfl | (rw [if_pos (by omega)]; done) | (rw [if_neg (by omega)]; done) | (rw [if_neg (by omega), if_pos (by omega)]; done) | (rw [if_neg (by omega), if_neg (by omega)]; done) | (rw [if_neg (by omega), if_neg (by omega), if_pos (by omega)]; done) | (rw [if_neg (by omega), if_neg (by omega), if_neg (by omega)]; done) | (rw [if_neg (by omega), if_neg (by omega), if_neg (by omega), if_pos (by omega)]; done) | (rw [if_neg (by omega), if_neg (by omega), if_neg (by omega), if_neg (by omega)]; done)
  · refine J_iconst 12 dX8_greet_11 rfl ?_
    refine J_iret dX8_greet_12 rfl ?_
    refine ⟨?_, ?_⟩
    · first | rfl | (rw [if_pos (by omega)]; done) | (rw [if_neg (by omega)]; done) | (rw [if_neg (by omega), if_pos (by omega)]; done) | (rw [if_neg (by omega), if_neg (by omega)]; done) | (rw [if_neg (by omega), if_neg (by omega), if_pos (by omega)]; done) | (rw [if_neg (by omega), if_neg (by omega), if_neg (by omega)]; done) | (rw [if_neg (by omega), if_neg (by omega), if_neg (by omega), if_pos (by omega)]; done) | (rw [if_neg (by omega), if_neg (by omega), if_neg (by omega), if_neg (by omega)]; done)
    · first | rfl | (rw [if_pos (by omega)]; done) | (rw [if_neg (by omega)]; done) | (rw [if_neg (by omega), if_pos (by omega)]; done) | (rw [if_neg (by omega), if_neg (by omega)]; done) | (rw [if_neg (by omega), if_neg (by omega), if_pos (by omega)]; done) | (rw [if_neg (by omega), if_neg (by omega), if_neg (by omega)]; done) | (rw [if_neg (by omega), if_neg (by omega), if_neg (by omega), if_pos (by omega)]; done) | (rw [if_neg (by omega), if_neg (by omega), if_neg (by omega), if_neg (by omega)]; done)
theorem c_X8_as (hc : inR c) (hx : inR x) : Ct P 2 yX8_as cX8_as 3 (some .int) [vr P 0, vi c, vi x] σ (rI (if ¬ (0 ≤ c ∧ c < σ 1 1) then -1 else if ¬ (0 ≤ x ∧ x ≤ 2) then -2 else if x ≤ σ 3 c then 1 else -10 - 2) (jup σ 0 10 (if ¬ (0 ≤ c ∧ c < σ 1 1) then 0 else if ¬ (0 ≤ x ∧ x ≤ 2) then 0 else if x ≤ σ 3 c then 0 else 2))) := by
  refine Ct.bd (fun hB => ?_)
  have hn := vC_n hB (w := 1) (Or.inl rfl)
  refine Ct.of _ rfl rfl rfl (Nat.le_of_ble_eq_true rfl) (fun hB => ?_)
  refine J_aload_n (i := 0) 1 dX8_as_0 rfl rfl rfl ?_
  refine J_iconst 2 dX8_as_1 rfl ?_
  refine J_putI (jz := 10) (lo := 0) (hi := 4) 5 dX8_as_2 rfl gX8_74 rfl rfl rfl rfl ?_
  refine J_aload_n (i := 0) 6 dX8_as_5 rfl rfl rfl ?_
  refine J_getR 9 dX8_as_6 rfl fX8_14 rfl rfl ?_
  refine J_iload_n (i := 1) 10 dX8_as_9 rfl rfl rfl ?_
  refine J_callVi 13 dX8_as_10 rfl kX8_109 mX7_hasComer rfl rfl rfl (c_X7_hasComer) (by first | decide | omega) rfl rfl (Nat.le_of_ble_eq_true rfl) (fun z2 s3 h1 => ?_)
  obtain ⟨rfl, rfl⟩ := h1
  try simp only [jup, ↓reduceIte, Nat.reduceEqDiff]
  refine J_bif_ne 18 16 dX8_as_13 rfl rfl (fun c4 => ?_) (fun c4 => ?_)
  · refine J_iload_n (i := 2) 19 dX8_as_18 rfl rfl rfl ?_
    refine J_if_lt 27 22 dX8_as_19 rfl rfl (fun c5 => ?_) (fun c5 => ?_)
    · refine J_bipush 29 dX8_as_27 rfl (by decide) ?_
      refine J_iret dX8_as_29 rfl ?_
      refine ⟨?_, ?_⟩
      · first | rfl | (rw [if_pos (by omega)]; done) | (rw [if_neg (by omega)]; done) | (rw [if_neg (by omega), if_pos (by omega)]; done) | (rw [if_neg (by omega), if_neg (by omega)]; done) | (rw [if_neg (by omega), if_neg (by omega), if_pos (by omega)]; done) | (rw [if_neg (by omega), if_neg (by omega), if_neg (by omega)]; done) | (rw [if_neg (by omega), if_neg (by omega), if_neg (by omega), if_pos (by omega)]; done) | (rw [if_neg (by omega), if_neg (by omega), if_neg (by omega), if_neg (by omega)]; done)
      · first | (rw [if_pos (by omega)]; done) | (rw [if_neg (by omega), if_pos (by omega)]; done) | (rw [if_neg (by omega), if_neg (by omega), if_pos (by omega)]; done) | (rw [if_neg (by omega), if_neg (by omega), if_neg (by omega), jup_jup]; done)
    · refine J_iload_n (i := 2) 23 dX8_as_22 rfl rfl rfl ?_
      refine J_iconst 24 dX8_as_23 rfl ?_
      refine J_icmp_le 30 27 dX8_as_24 rfl rfl (fun c6 => ?_) (fun c6 => ?_)
      · refine J_aload_n (i := 0) 31 dX8_as_30 rfl rfl rfl ?_
        refine J_getR 34 dX8_as_31 rfl fX8_14 rfl rfl ?_
        refine J_getR 37 dX8_as_34 rfl fX8_112 rfl rfl ?_
        refine J_iload_n (i := 1) 38 dX8_as_37 rfl rfl rfl ?_
        refine J_iald (N := 6) (lo := 0) (hi := 2) 39 dX8_as_38 rfl rfl rfl rfl (fun b7 b8 => ?_)
        try simp +decide only [jup, jset, ↓reduceIte] at b7 b8 ⊢
        refine J_iload_n (i := 2) 40 dX8_as_39 rfl rfl rfl ?_
        refine J_icmp_lt 47 43 dX8_as_40 rfl rfl (fun c9 => ?_) (fun c9 => ?_)
        · refine J_aload_n (i := 0) 48 dX8_as_47 rfl rfl rfl ?_
          refine J_iconst 49 dX8_as_48 rfl ?_
          refine J_callVi 52 dX8_as_49 rfl kX8_88 mX8_faulted rfl rfl rfl (c_X8_faulted) (by first | decide | omega) rfl rfl (Nat.le_of_ble_eq_true rfl) (fun z11 s12 h10 => ?_)
          obtain ⟨rfl, rfl⟩ := h10
          refine J_iret dX8_as_52 rfl ?_
          refine ⟨?_, ?_⟩
          · first | rfl | (rw [if_pos (by omega)]; done) | (rw [if_neg (by omega)]; done) | (rw [if_neg (by omega), if_pos (by omega)]; done) | (rw [if_neg (by omega), if_neg (by omega)]; done) | (rw [if_neg (by omega), if_neg (by omega), if_pos (by omega)]; done) | (rw [if_neg (by omega), if_neg (by omega), if_neg (by omega)]; done) | (rw [if_neg (by omega), if_neg (by omega), if_neg (by omega), if_pos (by omega)]; done) | (rw [if_neg (by omega), if_neg (by omega), if_neg (by omega), if_neg (by omega)]; done)
          · first | (rw [if_pos (by omega)]; done) | (rw [if_neg (by omega), if_pos (by omega)]; done) | (rw [if_neg (by omega), if_neg (by omega), if_pos (by omega)]; done) | (rw [if_neg (by omega), if_neg (by omega), if_neg (by omega), jup_jup]; done)
        · refine J_iconst 44 dX8_as_43 rfl ?_
          refine J_goto 52 dX8_as_44 rfl ?_
          refine J_iret dX8_as_52 rfl ?_
          refine ⟨?_, ?_⟩
          · first | rfl | (rw [if_pos (by omega)]; done) | (rw [if_neg (by omega)]; done) | (rw [if_neg (by omega), if_pos (by omega)]; done) | (rw [if_neg (by omega), if_neg (by omega)]; done) | (rw [if_neg (by omega), if_neg (by omega), if_pos (by omega)]; done) | (rw [if_neg (by omega), if_neg (by omega), if_neg (by omega)]; done) | (rw [if_neg (by omega), if_neg (by omega), if_neg (by omega), if_pos (by omega)]; done) | (rw [if_neg (by omega), if_neg (by omega), if_neg (by omega), if_neg (by omega)]; done)
          · first | (rw [if_pos (by omega)]; done) | (rw [if_neg (by omega), if_pos (by omega)]; done) | (rw [if_neg (by omega), if_neg (by omega), if_pos (by omega)]; done) | (rw [if_neg (by omega), if_neg (by omega), if_neg (by omega), jup_jup]; done)
      · refine J_bipush 29 dX8_as_27 rfl (by decide) ?_
        refine J_iret dX8_as_29 rfl ?_
        refine ⟨?_, ?_⟩
        · first | rfl | (rw [if_pos (by omega)]; done) | (rw [if_neg (by omega)]; done) | (rw [if_neg (by omega), if_pos (by omega)]; done) | (rw [if_neg (by omega), if_neg (by omega)]; done) | (rw [if_neg (by omega), if_neg (by omega), if_pos (by omega)]; done) | (rw [if_neg (by omega), if_neg (by omega), if_neg (by omega)]; done) | (rw [if_neg (by omega), if_neg (by omega), if_neg (by omega), if_pos (by omega)]; done) | (rw [if_neg (by omega), if_neg (by omega), if_neg (by omega), if_neg (by omega)]; done)
        · first | (rw [if_pos (by omega)]; done) | (rw [if_neg (by omega), if_pos (by omega)]; done) | (rw [if_neg (by omega), if_neg (by omega), if_pos (by omega)]; done) | (rw [if_neg (by omega), if_neg (by omega), if_neg (by omega), jup_jup]; done)
  · refine J_iconst 17 dX8_as_16 rfl ?_
    refine J_iret dX8_as_17 rfl ?_
    refine ⟨?_, ?_⟩
    · first | rfl | (rw [if_pos (by omega)]; done) | (rw [if_neg (by omega)]; done) | (rw [if_neg (by omega), if_pos (by omega)]; done) | (rw [if_neg (by omega), if_neg (by omega)]; done) | (rw [if_neg (by omega), if_neg (by omega), if_pos (by omega)]; done) | (rw [if_neg (by omega), if_neg (by omega), if_neg (by omega)]; done) | (rw [if_neg (by omega), if_neg (by omega), if_neg (by omega), if_pos (by omega)]; done) | (rw [if_neg (by omega), if_neg (by omega), if_neg (by omega), if_neg (by omega)]; done)
    · first | (rw [if_pos (by omega)]; done) | (rw [if_neg (by omega), if_pos (by omega)]; done) | (rw [if_neg (by omega), if_neg (by omega), if_pos (by omega)]; done) | (rw [if_neg (by omega), if_neg (by omega), if_neg (by omega), jup_jup]; done)
theorem c_X8_trace : Ct P 1 yX8_trace cX8_trace 1 (some .int) [vr P 0] σ (rI (σ 0 9) σ) := by
  refine Ct.of _ rfl rfl rfl (Nat.le_of_ble_eq_true rfl) (fun hB => ?_)
  refine J_aload_n (i := 0) 1 dX8_trace_0 rfl rfl rfl ?_
  refine J_getI (jz := 9) (lo := (-2147483648)) (hi := 2147483647) 4 dX8_trace_1 rfl fX8_70 rfl rfl rfl rfl (fun b1 b2 => ?_)
  refine J_iret dX8_trace_4 rfl ?_
  first | exact ⟨rfl, rfl⟩ | exact rfl | exact ⟨b01_t (by omega), rfl⟩ | exact ⟨b01_f (by omega), rfl⟩ | exact ⟨by omega, rfl⟩
theorem c_X8_fault : Ct P 1 yX8_fault cX8_fault 1 (some .int) [vr P 0] σ (rI (σ 0 10) σ) := by
  refine Ct.of _ rfl rfl rfl (Nat.le_of_ble_eq_true rfl) (fun hB => ?_)
  refine J_aload_n (i := 0) 1 dX8_fault_0 rfl rfl rfl ?_
  refine J_getI (jz := 10) (lo := 0) (hi := 4) 4 dX8_fault_1 rfl fX8_74 rfl rfl rfl rfl (fun b1 b2 => ?_)
  refine J_iret dX8_fault_4 rfl ?_
  first | exact ⟨rfl, rfl⟩ | exact rfl | exact ⟨b01_t (by omega), rfl⟩ | exact ⟨b01_f (by omega), rfl⟩ | exact ⟨by omega, rfl⟩
def aMany (g n m ch all cnt st x : Int) : Int := if x = 0 then g else if x = 1 then n else if x = 2 then st else if x = 3 then all else if x = 4 then cnt else if x = 5 then m else if x = 6 then ch else -2
theorem c_X8_many (hx : inR x) : Ct P 5 yX8_many cX8_many 2 (some .int) [vr P 0, vi x] σ (rI (aMany (σ 1 0) (σ 1 1) (σ 1 2) (σ 1 3) (sumN (vC σ 1 1) (gM (vC σ 1))) (σ 24 2) (popM (starvM (vC σ 1))) x) σ) := by
  refine Ct.bd (fun hB => ?_)
  have hvB := vC_B hB (w := 1) (Or.inl rfl)
  have hsb := starvM_b hvB
  refine Ct.of _ rfl rfl rfl (Nat.le_of_ble_eq_true rfl) (fun hB => ?_)
  refine J_iload_n (i := 1) 1 dX8_many_0 rfl rfl rfl ?_
  rcases (show x = 0 ∨ x = 1 ∨ x = 2 ∨ x = 3 ∨ x = 4 ∨ x = 5 ∨ x = 6 ∨ (x < 0 ∨ 6 < x) by omega) with rfl | rfl | rfl | rfl | rfl | rfl | rfl | hx2
  · refine J_tableIn 44 dX8_many_1 rfl rfl ?_
    refine J_aload_n (i := 0) 45 dX8_many_44 rfl rfl rfl ?_
    refine J_getR 48 dX8_many_45 rfl fX8_14 rfl rfl ?_
    refine J_getI (jz := 0) (lo := 0) (hi := 3) 51 dX8_many_48 rfl fX8_208 rfl rfl rfl rfl (fun b1 b2 => ?_)
    refine J_iret dX8_many_51 rfl ?_
    exact ⟨rfl, rfl⟩
  · refine J_tableIn 52 dX8_many_1 rfl rfl ?_
    refine J_aload_n (i := 0) 53 dX8_many_52 rfl rfl rfl ?_
    refine J_getR 56 dX8_many_53 rfl fX8_14 rfl rfl ?_
    refine J_getI (jz := 1) (lo := 0) (hi := 6) 59 dX8_many_56 rfl fX8_106 rfl rfl rfl rfl (fun b3 b4 => ?_)
    refine J_iret dX8_many_59 rfl ?_
    exact ⟨rfl, rfl⟩
  · refine J_tableIn 60 dX8_many_1 rfl rfl ?_
    refine J_aload_n (i := 0) 61 dX8_many_60 rfl rfl rfl ?_
    refine J_getR 64 dX8_many_61 rfl fX8_14 rfl rfl ?_
    refine J_callVi 67 dX8_many_64 rfl kX8_134 mX7_starving rfl rfl rfl (c_X7_starving) (by first | decide | omega) rfl rfl (Nat.le_of_ble_eq_true rfl) (fun z6 s7 h5 => ?_)
    obtain ⟨rfl, rfl⟩ := h5
    refine J_callSi 70 dX8_many_67 rfl kX8_236 mJ6_bitCount_0f7a4 (c_J6_bitCount_0f7a4) (by first | decide | omega) rfl rfl (Nat.le_of_ble_eq_true rfl) (fun z9 s10 h8 => ?_)
    obtain ⟨rfl, rfl⟩ := h8
    refine J_iret dX8_many_70 rfl ?_
    exact ⟨rfl, rfl⟩
  · refine J_tableIn 71 dX8_many_1 rfl rfl ?_
    refine J_aload_n (i := 0) 72 dX8_many_71 rfl rfl rfl ?_
    refine J_getR 75 dX8_many_72 rfl fX8_14 rfl rfl ?_
    refine J_callVi 78 dX8_many_75 rfl kX8_300 mX7_allLoaves rfl rfl rfl (c_X7_allLoaves) (by first | decide | omega) rfl rfl (Nat.le_of_ble_eq_true rfl) (fun z12 s13 h11 => ?_)
    obtain ⟨rfl, rfl⟩ := h11
    refine J_iret dX8_many_78 rfl ?_
    exact ⟨rfl, rfl⟩
  · refine J_tableIn 79 dX8_many_1 rfl rfl ?_
    refine J_aload_n (i := 0) 80 dX8_many_79 rfl rfl rfl ?_
    refine J_getR 83 dX8_many_80 rfl fX8_59 rfl rfl ?_
    refine J_getI (jz := 2) (lo := 0) (hi := 8) 86 dX8_many_83 rfl fX8_103 rfl rfl rfl rfl (fun b14 b15 => ?_)
    refine J_iret dX8_many_86 rfl ?_
    exact ⟨rfl, rfl⟩
  · refine J_tableIn 87 dX8_many_1 rfl rfl ?_
    refine J_aload_n (i := 0) 88 dX8_many_87 rfl rfl rfl ?_
    refine J_getR 91 dX8_many_88 rfl fX8_14 rfl rfl ?_
    refine J_getI (jz := 2) (lo := 0) (hi := 2) 94 dX8_many_91 rfl fX8_166 rfl rfl rfl rfl (fun b16 b17 => ?_)
    refine J_iret dX8_many_94 rfl ?_
    exact ⟨rfl, rfl⟩
  · refine J_tableIn 95 dX8_many_1 rfl rfl ?_
    refine J_aload_n (i := 0) 96 dX8_many_95 rfl rfl rfl ?_
    refine J_getR 99 dX8_many_96 rfl fX8_14 rfl rfl ?_
    refine J_getI (jz := 3) (lo := 0) (hi := 9) 102 dX8_many_99 rfl fX8_169 rfl rfl rfl rfl (fun b18 b19 => ?_)
    refine J_iret dX8_many_102 rfl ?_
    exact ⟨rfl, rfl⟩
  · refine J_tableOut 103 dX8_many_1 rfl ?_
    refine J_bipush 105 dX8_many_103 rfl (by decide) ?_
    refine J_iret dX8_many_105 rfl ?_
    refine ⟨?_, rfl⟩
    unfold aMany
    rw [if_neg (by omega), if_neg (by omega), if_neg (by omega), if_neg (by omega), if_neg (by omega), if_neg (by omega), if_neg (by omega)]
end

