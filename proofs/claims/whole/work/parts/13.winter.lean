/-! ===== a winter, as mathematics: v 0 its numbers (gates, comers, manner, chalk), v 1 loaves, v 2 kinds, v 3 hunger, v 4 shows, v 5 gates of comers, v 6 hours ===== -/
abbrev rI (e : Int) (g : jS) : Option Value → jS → Prop := qi (fun z σ' => e = z ∧ g = σ')
abbrev rL (e : Int) (g : jS) : Option Value → jS → Prop := ql (fun z σ' => e = z ∧ g = σ')
abbrev rV (g : jS) : Option Value → jS → Prop := qv (fun σ' => g = σ')
def vC (σ : jS) (w : Nat) (i : Nat) (j : Int) : Int := if i ≤ 6 then σ (w + i) j else 0
def vR (σ : jS) (i : Nat) (j : Int) : Int := if i = 0 then (if 0 ≤ j ∧ j ≤ 3 then σ 36 (j + 1) else 0) else if i ≤ 6 then σ (36 + i) j else 0
def sumN (f : Int → Int) : Nat → Int
  | 0 => 0
  | n + 1 => sumN f n + f (n : Int)
def lookM (v : jS) (c : Int) : Int := if v 2 c = 0 then v 4 c else if v 2 c = 1 then v 4 c + v 0 3 else v 4 c + v 0 3 + v 4 c
def rankM (v : jS) (c : Int) : Int := 100 * (if v 0 2 = 0 then lookM v c else if v 0 2 = 1 then v 3 c else 0) - 10 * v 6 c - c
def nM (v : jS) : Nat := (v 0 1).toNat
def gM (v : jS) : Nat := (v 0 0).toNat
def placeF (v : jS) (c d : Int) : Int := if v 5 d = v 5 c ∧ rankM v c < rankM v d then 1 else 0
def takeF (v : jS) (c d : Int) : Int := if v 5 d = v 5 c ∧ rankM v c < rankM v d then v 3 d else 0
def placeM (v : jS) (c : Int) : Int := sumN (placeF v c) (nM v)
def clampM (r h : Int) : Int := if 0 < (if h < r then h else r) then (if h < r then h else r) else 0
def eatsM (v : jS) (c : Int) : Int := clampM (v 1 (v 5 c) - sumN (takeF v c) (nM v)) (v 3 c)
/-- a set as bits -/
def setN (f : Int → Bool) : Nat → Int
  | 0 => 0
  | n + 1 => if f (n : Int) = true then setN f n + 2 ^ n else setN f n
def outM (v : jS) (c : Int) : Bool := decide (0 < v 3 c ∧ eatsM v c = 0)
def starvM (v : jS) : Int := setN (outM v) (nM v)
def atM (v : jS) (g : Int) : Int := setN (fun c => decide (v 5 c = g)) (nM v)
def hungrierM (v : jS) (c : Int) : Int := setN (fun d => decide (v 3 c < v 3 d)) (nM v)
def leftF (v : jS) (g c : Int) : Int := if v 5 c = g then v 3 c else 0
def leftM (v : jS) (g : Int) : Int := if 0 < v 1 g - sumN (leftF v g) (nM v) then v 1 g - sumN (leftF v g) (nM v) else 0
def eaterF (v : jS) (c : Int) : Int := if 0 < eatsM v c then 1 else 0
def heldF (v : jS) (t c : Int) : Int := if 0 < v 3 c ∧ t ≤ lookM v c then 1 else 0
def unheldF (v : jS) (t c : Int) : Int := if v 3 c = 0 ∧ lookM v c < t then 1 else 0
def digN (f : Int → Int) : Nat → Int
  | 0 => 0
  | n + 1 => 10 * digN f n + f (n : Int)
theorem sumN_b {f : Int → Int} {a b : Int} (h : ∀ j : Int, a ≤ f j ∧ f j ≤ b) (n : Nat) : n * a ≤ sumN f n ∧ sumN f n ≤ n * b := by
  induction n with
  | zero => simp [sumN]
  | succ n ih =>
    have h1 := h n
    have e : ∀ x : Int, ((n + 1 : Nat) : Int) * x = n * x + x := fun x => by rw [show ((n + 1 : Nat) : Int) = (n : Int) + 1 from rfl, Int.add_mul, Int.one_mul]
    rw [e, e]
    simp only [sumN]
    omega
theorem clampM_b {r h : Int} (h0 : 0 ≤ h) : 0 ≤ clampM r h ∧ clampM r h ≤ h := by
  unfold clampM
  split <;> split <;> omega
theorem setN_b (f : Int → Bool) (n : Nat) : 0 ≤ setN f n ∧ setN f n < 2 ^ n := by
  induction n with
  | zero => simp [setN]
  | succ n ih =>
    simp only [setN]
    have e : (2 : Int) ^ (n + 1) = 2 ^ n + 2 ^ n := by rw [Int.pow_succ]; omega
    split <;> omega
theorem pow_64 {n : Nat} (h : n ≤ 6) : (2 : Int) ^ n ≤ 64 ∧ 0 < (2 : Int) ^ n := by
  have : ∀ n : Fin 7, (2 : Int) ^ n.val ≤ 64 ∧ 0 < (2 : Int) ^ n.val := by decide
  exact this ⟨n, by omega⟩
theorem setN_64 (f : Int → Bool) {n : Nat} (h : n ≤ 6) : 0 ≤ setN f n ∧ setN f n ≤ 63 := by
  have h1 := setN_b f n
  have h2 := pow_64 h
  omega
theorem ior_pow {a : Int} {n : Nat} (h : 0 ≤ a ∧ a < 2 ^ n) : ior a (2 ^ n) = a + 2 ^ n := by
  obtain ⟨b, rfl⟩ : ∃ b : Nat, a = (b : Int) := ⟨a.toNat, by omega⟩
  have e : (2 : Int) ^ n = ((2 ^ n : Nat) : Int) := by simp
  rw [e] at h ⊢
  unfold ior
  rw [Int.toNat_natCast, Int.toNat_natCast]
  have hb : b < 2 ^ n := by omega
  have h3 := Nat.two_pow_add_eq_or_of_lt hb 1
  rw [Nat.mul_one] at h3
  rw [Nat.or_comm, ← h3]
  omega
theorem testBit_set (f : Int → Bool) : ∀ (n i : Nat), (setN f n).toNat.testBit i = (decide (i < n) && f (i : Int)) := by
  intro n
  induction n with
  | zero => intro i; simp [setN]
  | succ n ih =>
    intro i
    simp only [setN]
    have hb := setN_b f n
    have hp : (2 : Int) ^ n = ((2 ^ n : Nat) : Int) := by simp
    have hb' : (setN f n).toNat < 2 ^ n := by omega
    by_cases hf : f (n : Int) = true
    · rw [if_pos hf]
      have e : (setN f n + 2 ^ n).toNat = 2 ^ n + (setN f n).toNat := by omega
      rw [e]
      rcases Nat.lt_trichotomy i n with h | h | h
      · rw [Nat.testBit_two_pow_add_gt h, ih i]
        simp [h, Nat.lt_succ_of_lt h]
      · subst h
        rw [Nat.testBit_two_pow_add_eq, Nat.testBit_lt_two_pow hb']
        simp [hf]
      · have : 2 ^ n + (setN f n).toNat < 2 ^ i := by
          have h2 : 2 ^ (n + 1) ≤ 2 ^ i := Nat.pow_le_pow_right (by omega) h
          rw [Nat.pow_succ] at h2
          omega
        rw [Nat.testBit_lt_two_pow this]
        simp; omega
    · rw [if_neg hf, ih i]
      by_cases h : i = n
      · subst h; simp [hf]
      · by_cases h2 : i < n
        · simp [h2, Nat.lt_succ_of_lt h2]
        · have : ¬ i < n + 1 := by omega
          simp [h2, this]
theorem setN_and (f g : Int → Bool) (n : Nat) : iand (setN f n) (setN g n) = setN (fun c => f c && g c) n := by
  have hb := setN_b (fun c => f c && g c) n
  have key : ((setN f n).toNat &&& (setN g n).toNat) = (setN (fun c => f c && g c) n).toNat := by
    apply Nat.eq_of_testBit_eq
    intro i
    rw [Nat.testBit_and, testBit_set, testBit_set, testBit_set]
    cases decide (i < n) <;> simp
  unfold iand
  rw [key]
  omega
theorem setN_bit (f : Int → Bool) {n i : Nat} (h : i < n) : iand (((setN f n).toNat / 2 ^ i : Nat) : Int) 1 = if f (i : Int) = true then 1 else 0 := by
  unfold iand
  rw [Int.toNat_natCast]
  have h1 : ((setN f n).toNat / 2 ^ i) &&& 1 = ((setN f n).toNat / 2 ^ i) % 2 := Nat.and_one_is_mod _
  have h2 := testBit_set f n i
  rw [Nat.testBit_eq_decide_div_mod_eq] at h2
  have e1 : (1 : Int).toNat = 1 := rfl
  rw [e1, h1]
  have h4 := Nat.mod_two_eq_zero_or_one ((setN f n).toNat / 2 ^ i)
  cases hf : f (i : Int) with
  | true => rw [hf] at h2; simp [h] at h2; simp [h2]
  | false =>
    rw [hf] at h2; simp [h] at h2
    rcases h4 with h4 | h4
    · simp [h4]
    · exact absurd h4 (by omega)
section
variable {P : jP} {w : Nat} {c g x y z : Int} {σ : jS}
theorem vC_n (hB : jBd σ) (hw : w = 1 ∨ w = 8) : nM (vC σ w) ≤ 6 ∧ 0 ≤ σ w 1 ∧ σ w 1 ≤ 6 ∧ σ w 1 = (nM (vC σ w) : Nat) := by
  have h : (0 : Int) ≤ σ w 1 ∧ σ w 1 ≤ 6 := by
    rcases hw with rfl | rfl
    · exact hB 1 1
    · exact hB 8 1
  unfold nM vC
  simp only [Nat.add_zero, Nat.zero_le, ↓reduceIte]
  omega
theorem vC_g (hB : jBd σ) (hw : w = 1 ∨ w = 8) : gM (vC σ w) ≤ 3 ∧ 0 ≤ σ w 0 ∧ σ w 0 ≤ 3 ∧ σ w 0 = (gM (vC σ w) : Nat) := by
  have h : (0 : Int) ≤ σ w 0 ∧ σ w 0 ≤ 3 := by
    rcases hw with rfl | rfl
    · exact hB 1 0
    · exact hB 8 0
  unfold gM vC
  simp only [Nat.add_zero, Nat.zero_le, ↓reduceIte]
  omega
def wvB (v : jS) : Prop := (0 ≤ v 0 0 ∧ v 0 0 ≤ 3) ∧ (0 ≤ v 0 1 ∧ v 0 1 ≤ 6) ∧ (0 ≤ v 0 2 ∧ v 0 2 ≤ 2) ∧ (0 ≤ v 0 3 ∧ v 0 3 ≤ 9) ∧ (∀ j, 0 ≤ v 1 j ∧ v 1 j ≤ 9) ∧ (∀ j, 0 ≤ v 2 j ∧ v 2 j ≤ 2) ∧ (∀ j, 0 ≤ v 3 j ∧ v 3 j ≤ 9) ∧ (∀ j, 0 ≤ v 4 j ∧ v 4 j ≤ 9) ∧ (∀ j, 0 ≤ v 5 j ∧ v 5 j ≤ 2) ∧ (∀ j, 0 ≤ v 6 j ∧ v 6 j ≤ 9)
theorem vC_B (hB : jBd σ) (hw : w = 1 ∨ w = 8) : wvB (vC σ w) := by
  rcases hw with rfl | rfl
  · exact ⟨hB 1 0, hB 1 1, hB 1 2, hB 1 3, fun j => hB 2 j, fun j => hB 3 j, fun j => hB 4 j, fun j => hB 5 j, fun j => hB 6 j, fun j => hB 7 j⟩
  · exact ⟨hB 8 0, hB 8 1, hB 8 2, hB 8 3, fun j => hB 9 j, fun j => hB 10 j, fun j => hB 11 j, fun j => hB 12 j, fun j => hB 13 j, fun j => hB 14 j⟩
theorem vR_B (hB : jBd σ) : wvB (vR σ) :=
  ⟨hB 36 1, hB 36 2, hB 36 3, hB 36 4, fun j => hB 37 j, fun j => hB 38 j, fun j => hB 39 j, fun j => hB 40 j, fun j => hB 41 j, fun j => hB 42 j⟩
theorem lookM_b {v : jS} (h : wvB v) (c : Int) : 0 ≤ lookM v c ∧ lookM v c ≤ 27 := by
  obtain ⟨h1, h2, h3, h4, h5, h6, h7, h8, h9, h10⟩ := h
  have a := h8 c
  unfold lookM
  split
  · omega
  · split <;> omega
theorem rankM_b {v : jS} (h : wvB v) {c : Int} (hc : 0 ≤ c ∧ c ≤ 6) : -200 ≤ rankM v c ∧ rankM v c ≤ 2700 := by
  have h0 := lookM_b h c
  obtain ⟨h1, h2, h3, h4, h5, h6, h7, h8, h9, h10⟩ := h
  have a := h7 c
  have b := h10 c
  unfold rankM
  split
  · omega
  · split <;> omega
theorem eatsM_b {v : jS} (h : wvB v) (c : Int) : 0 ≤ eatsM v c ∧ eatsM v c ≤ 9 := by
  obtain ⟨h1, h2, h3, h4, h5, h6, h7, h8, h9, h10⟩ := h
  have a := h7 c
  have b := clampM_b (r := v 1 (v 5 c) - sumN (takeF v c) (nM v)) a.1
  unfold eatsM
  omega
theorem takeF_b {v : jS} (h : wvB v) (c d : Int) : 0 ≤ takeF v c d ∧ takeF v c d ≤ 9 := by
  have a := h.2.2.2.2.2.2.1 d
  unfold takeF
  split <;> omega
theorem placeF_b (v : jS) (c d : Int) : 0 ≤ placeF v c d ∧ placeF v c d ≤ 1 := by
  unfold placeF
  split <;> omega
theorem leftF_b {v : jS} (h : wvB v) (c d : Int) : 0 ≤ leftF v c d ∧ leftF v c d ≤ 9 := by
  have a := h.2.2.2.2.2.2.1 d
  unfold leftF
  split <;> omega
theorem c_X7_stands (hw : w = 1 ∨ w = 8 := by omega) : Ct P 1 yX7_stands cX7_stands 1 (some .boolean) [vr P w] σ (rI (b01 (0 < σ w 1)) σ) := by
  rcases hw with rfl | rfl <;> (
    refine Ct.of _ rfl rfl rfl (Nat.le_of_ble_eq_true rfl) (fun hB => ?_)
    refine J_aload_n (i := 0) 1 dX7_stands_0 rfl rfl rfl ?_
    refine J_getI (jz := 1) (lo := 0) (hi := 6) 4 dX7_stands_1 rfl fX7_15 rfl rfl rfl rfl (fun b1 b2 => ?_)
    refine J_if_le 11 7 dX7_stands_4 rfl rfl (fun c3 => ?_) (fun c3 => ?_)
    · refine J_iconst 12 dX7_stands_11 rfl ?_
      refine J_zret dX7_stands_12 rfl ?_
      first | exact ⟨rfl, rfl⟩ | exact rfl | exact ⟨b01_t (by omega), rfl⟩ | exact ⟨b01_f (by omega), rfl⟩ | exact ⟨by omega, rfl⟩
    · refine J_iconst 8 dX7_stands_7 rfl ?_
      refine J_goto 12 dX7_stands_8 rfl ?_
      refine J_zret dX7_stands_12 rfl ?_
      first | exact ⟨rfl, rfl⟩ | exact rfl | exact ⟨b01_t (by omega), rfl⟩ | exact ⟨b01_f (by omega), rfl⟩ | exact ⟨by omega, rfl⟩
  )
theorem c_X7_hasGate (hw : w = 1 ∨ w = 8 := by omega) (hg : inR g := by omega) : Ct P 1 yX7_hasGate cX7_hasGate 2 (some .boolean) [vr P w, vi g] σ (rI (b01 (0 ≤ g ∧ g < σ w 0)) σ) := by
  rcases hw with rfl | rfl <;> (
    refine Ct.of _ rfl rfl rfl (Nat.le_of_ble_eq_true rfl) (fun hB => ?_)
    refine J_iload_n (i := 1) 1 dX7_hasGate_0 rfl rfl rfl ?_
    refine J_if_lt 16 4 dX7_hasGate_1 rfl rfl (fun c1 => ?_) (fun c1 => ?_)
    · refine J_iconst 17 dX7_hasGate_16 rfl ?_
      refine J_zret dX7_hasGate_17 rfl ?_
      first | exact ⟨rfl, rfl⟩ | exact rfl | exact ⟨b01_t (by omega), rfl⟩ | exact ⟨b01_f (by omega), rfl⟩ | exact ⟨by omega, rfl⟩
    · refine J_iload_n (i := 1) 5 dX7_hasGate_4 rfl rfl rfl ?_
      refine J_aload_n (i := 0) 6 dX7_hasGate_5 rfl rfl rfl ?_
      refine J_getI (jz := 0) (lo := 0) (hi := 3) 9 dX7_hasGate_6 rfl fX7_9 rfl rfl rfl rfl (fun b2 b3 => ?_)
      refine J_icmp_ge 16 12 dX7_hasGate_9 rfl rfl (fun c4 => ?_) (fun c4 => ?_)
      · refine J_iconst 17 dX7_hasGate_16 rfl ?_
        refine J_zret dX7_hasGate_17 rfl ?_
        first | exact ⟨rfl, rfl⟩ | exact rfl | exact ⟨b01_t (by omega), rfl⟩ | exact ⟨b01_f (by omega), rfl⟩ | exact ⟨by omega, rfl⟩
      · refine J_iconst 13 dX7_hasGate_12 rfl ?_
        refine J_goto 17 dX7_hasGate_13 rfl ?_
        refine J_zret dX7_hasGate_17 rfl ?_
        first | exact ⟨rfl, rfl⟩ | exact rfl | exact ⟨b01_t (by omega), rfl⟩ | exact ⟨b01_f (by omega), rfl⟩ | exact ⟨by omega, rfl⟩
  )
theorem c_X7_hasComer (hw : w = 1 ∨ w = 8 := by omega) (hc : inR c := by omega) : Ct P 1 yX7_hasComer cX7_hasComer 2 (some .boolean) [vr P w, vi c] σ (rI (b01 (0 ≤ c ∧ c < σ w 1)) σ) := by
  rcases hw with rfl | rfl <;> (
    refine Ct.of _ rfl rfl rfl (Nat.le_of_ble_eq_true rfl) (fun hB => ?_)
    refine J_iload_n (i := 1) 1 dX7_hasComer_0 rfl rfl rfl ?_
    refine J_if_lt 16 4 dX7_hasComer_1 rfl rfl (fun c1 => ?_) (fun c1 => ?_)
    · refine J_iconst 17 dX7_hasComer_16 rfl ?_
      refine J_zret dX7_hasComer_17 rfl ?_
      first | exact ⟨rfl, rfl⟩ | exact rfl | exact ⟨b01_t (by omega), rfl⟩ | exact ⟨b01_f (by omega), rfl⟩ | exact ⟨by omega, rfl⟩
    · refine J_iload_n (i := 1) 5 dX7_hasComer_4 rfl rfl rfl ?_
      refine J_aload_n (i := 0) 6 dX7_hasComer_5 rfl rfl rfl ?_
      refine J_getI (jz := 1) (lo := 0) (hi := 6) 9 dX7_hasComer_6 rfl fX7_15 rfl rfl rfl rfl (fun b2 b3 => ?_)
      refine J_icmp_ge 16 12 dX7_hasComer_9 rfl rfl (fun c4 => ?_) (fun c4 => ?_)
      · refine J_iconst 17 dX7_hasComer_16 rfl ?_
        refine J_zret dX7_hasComer_17 rfl ?_
        first | exact ⟨rfl, rfl⟩ | exact rfl | exact ⟨b01_t (by omega), rfl⟩ | exact ⟨b01_f (by omega), rfl⟩ | exact ⟨by omega, rfl⟩
      · refine J_iconst 13 dX7_hasComer_12 rfl ?_
        refine J_goto 17 dX7_hasComer_13 rfl ?_
        refine J_zret dX7_hasComer_17 rfl ?_
        first | exact ⟨rfl, rfl⟩ | exact rfl | exact ⟨b01_t (by omega), rfl⟩ | exact ⟨b01_f (by omega), rfl⟩ | exact ⟨by omega, rfl⟩
  )
theorem c_X7_look (hw : w = 1 ∨ w = 8 := by omega) (hc : 0 ≤ c ∧ c < 6 := by omega) : Ct P 1 yX7_look cX7_look 4 (some .int) [vr P w, vi c] σ (rI (lookM (vC σ w) c) σ) := by
  rcases hw with rfl | rfl <;> (
    refine Ct.of _ rfl rfl rfl (Nat.le_of_ble_eq_true rfl) (fun hB => ?_)
    refine J_aload_n (i := 0) 1 dX7_look_0 rfl rfl rfl ?_
    refine J_getR 4 dX7_look_1 rfl fX7_34 rfl rfl ?_
    refine J_iload_n (i := 1) 5 dX7_look_4 rfl rfl rfl ?_
    refine J_iald (N := 6) (lo := 0) (hi := 9) 6 dX7_look_5 rfl rfl rfl rfl (fun b1 b2 => ?_)
    refine J_istore_n (i := 2) 7 dX7_look_6 rfl rfl (by decide) ?_
    refine J_aload_n (i := 0) 8 dX7_look_7 rfl rfl rfl ?_
    refine J_getR 11 dX7_look_8 rfl fX7_28 rfl rfl ?_
    refine J_iload_n (i := 1) 12 dX7_look_11 rfl rfl rfl ?_
    refine J_iald (N := 6) (lo := 0) (hi := 2) 13 dX7_look_12 rfl rfl rfl rfl (fun b3 b4 => ?_)
    refine J_if_ne 18 16 dX7_look_13 rfl rfl (fun c5 => ?_) (fun c5 => ?_)
    · refine J_iload_n (i := 2) 19 dX7_look_18 rfl rfl rfl ?_
      refine J_aload_n (i := 0) 20 dX7_look_19 rfl rfl rfl ?_
      refine J_getI (jz := 3) (lo := 0) (hi := 9) 23 dX7_look_20 rfl fX7_21 rfl rfl rfl rfl (fun b6 b7 => ?_)
      refine J_iadd 24 dX7_look_23 rfl ?_
      refine J_istore_n (i := 3) 25 dX7_look_24 rfl rfl (by decide) ?_
      refine J_aload_n (i := 0) 26 dX7_look_25 rfl rfl rfl ?_
      refine J_getR 29 dX7_look_26 rfl fX7_28 rfl rfl ?_
      refine J_iload_n (i := 1) 30 dX7_look_29 rfl rfl rfl ?_
      refine J_iald (N := 6) (lo := 0) (hi := 2) 31 dX7_look_30 rfl rfl rfl rfl (fun b8 b9 => ?_)
      refine J_iconst 32 dX7_look_31 rfl ?_
      refine J_icmp_ne 39 35 dX7_look_32 rfl rfl (fun c10 => ?_) (fun c10 => ?_)
      · refine J_iload_n (i := 3) 40 dX7_look_39 rfl rfl rfl ?_
        refine J_iload_n (i := 2) 41 dX7_look_40 rfl rfl rfl ?_
        refine J_iadd 42 dX7_look_41 rfl ?_
        refine J_iret dX7_look_42 rfl ?_
        refine ⟨?_, rfl⟩
        simp only [lookM, vC, Nat.reduceLeDiff, ↓reduceIte, Nat.reduceAdd]
        simp [*]
      · refine J_iload_n (i := 3) 36 dX7_look_35 rfl rfl rfl ?_
        refine J_goto 42 dX7_look_36 rfl ?_
        refine J_iret dX7_look_42 rfl ?_
        refine ⟨?_, rfl⟩
        simp only [lookM, vC, Nat.reduceLeDiff, ↓reduceIte, Nat.reduceAdd]
        simp [*]
    · refine J_iload_n (i := 2) 17 dX7_look_16 rfl rfl rfl ?_
      refine J_iret dX7_look_17 rfl ?_
      refine ⟨?_, rfl⟩
      simp only [lookM, vC, Nat.reduceLeDiff, ↓reduceIte, Nat.reduceAdd]
      simp [*]
  )
theorem c_X7_rank (hw : w = 1 ∨ w = 8 := by omega) (hc : 0 ≤ c ∧ c < 6 := by omega) : Ct P 2 yX7_rank cX7_rank 3 (some .int) [vr P w, vi c] σ (rI (rankM (vC σ w) c) σ) := by
  rcases hw with rfl | rfl <;> (
    refine Ct.of _ rfl rfl rfl (Nat.le_of_ble_eq_true rfl) (fun hB => ?_)
    refine J_iconst 1 dX7_rank_0 rfl ?_
    refine J_istore_n (i := 2) 2 dX7_rank_1 rfl rfl (by decide) ?_
    refine J_aload_n (i := 0) 3 dX7_rank_2 rfl rfl rfl ?_
    refine J_getI (jz := 2) (lo := 0) (hi := 2) 6 dX7_rank_3 rfl fX7_18 rfl rfl rfl rfl (fun b1 b2 => ?_)
    refine J_if_ne 15 9 dX7_rank_6 rfl rfl (fun c3 => ?_) (fun c3 => ?_)
    · refine J_aload_n (i := 0) 16 dX7_rank_15 rfl rfl rfl ?_
      refine J_getI (jz := 2) (lo := 0) (hi := 2) 19 dX7_rank_16 rfl fX7_18 rfl rfl rfl rfl (fun b4 b5 => ?_)
      refine J_iconst 20 dX7_rank_19 rfl ?_
      refine J_icmp_ne 30 23 dX7_rank_20 rfl rfl (fun c6 => ?_) (fun c6 => ?_)
      · refine J_bipush 32 dX7_rank_30 rfl (by decide) ?_
        refine J_iload_n (i := 2) 33 dX7_rank_32 rfl rfl rfl ?_
        refine J_imul 34 dX7_rank_33 rfl ?_
        refine J_bipush 36 dX7_rank_34 rfl (by decide) ?_
        refine J_aload_n (i := 0) 37 dX7_rank_36 rfl rfl rfl ?_
        refine J_getR 40 dX7_rank_37 rfl fX7_40 rfl rfl ?_
        refine J_iload_n (i := 1) 41 dX7_rank_40 rfl rfl rfl ?_
        refine J_iald (N := 6) (lo := 0) (hi := 9) 42 dX7_rank_41 rfl rfl rfl rfl (fun b7 b8 => ?_)
        refine J_imul 43 dX7_rank_42 rfl ?_
        refine J_isub 44 dX7_rank_43 rfl ?_
        refine J_iload_n (i := 1) 45 dX7_rank_44 rfl rfl rfl ?_
        refine J_isub 46 dX7_rank_45 rfl ?_
        refine J_iret dX7_rank_46 rfl ?_
        first
          | (exfalso; omega)
          | (refine ⟨?_, rfl⟩; simp only [rankM, vC, Nat.reduceLeDiff, ↓reduceIte, Nat.reduceAdd]; simp [*])
      · refine J_aload_n (i := 0) 24 dX7_rank_23 rfl rfl rfl ?_
        refine J_getR 27 dX7_rank_24 rfl fX7_31 rfl rfl ?_
        refine J_iload_n (i := 1) 28 dX7_rank_27 rfl rfl rfl ?_
        refine J_iald (N := 6) (lo := 0) (hi := 9) 29 dX7_rank_28 rfl rfl rfl rfl (fun b9 b10 => ?_)
        refine J_istore_n (i := 2) 30 dX7_rank_29 rfl rfl (by decide) ?_
        refine J_bipush 32 dX7_rank_30 rfl (by decide) ?_
        refine J_iload_n (i := 2) 33 dX7_rank_32 rfl rfl rfl ?_
        refine J_imul 34 dX7_rank_33 rfl ?_
        refine J_bipush 36 dX7_rank_34 rfl (by decide) ?_
        refine J_aload_n (i := 0) 37 dX7_rank_36 rfl rfl rfl ?_
        refine J_getR 40 dX7_rank_37 rfl fX7_40 rfl rfl ?_
        refine J_iload_n (i := 1) 41 dX7_rank_40 rfl rfl rfl ?_
        refine J_iald (N := 6) (lo := 0) (hi := 9) 42 dX7_rank_41 rfl rfl rfl rfl (fun b11 b12 => ?_)
        refine J_imul 43 dX7_rank_42 rfl ?_
        refine J_isub 44 dX7_rank_43 rfl ?_
        refine J_iload_n (i := 1) 45 dX7_rank_44 rfl rfl rfl ?_
        refine J_isub 46 dX7_rank_45 rfl ?_
        refine J_iret dX7_rank_46 rfl ?_
        first
          | (exfalso; omega)
          | (refine ⟨?_, rfl⟩; simp only [rankM, vC, Nat.reduceLeDiff, ↓reduceIte, Nat.reduceAdd]; simp [*])
    · refine J_aload_n (i := 0) 10 dX7_rank_9 rfl rfl rfl ?_
      refine J_iload_n (i := 1) 11 dX7_rank_10 rfl rfl rfl ?_
      refine J_callVi 14 dX7_rank_11 rfl kX7_49 mX7_look rfl rfl rfl (c_X7_look) (by decide) rfl rfl (Nat.le_of_ble_eq_true rfl) (fun z14 s15 h13 => ?_)
      obtain ⟨rfl, rfl⟩ := h13
      refine J_istore_n (i := 2) 15 dX7_rank_14 rfl rfl (by decide) ?_
      refine J_aload_n (i := 0) 16 dX7_rank_15 rfl rfl rfl ?_
      refine J_getI (jz := 2) (lo := 0) (hi := 2) 19 dX7_rank_16 rfl fX7_18 rfl rfl rfl rfl (fun b16 b17 => ?_)
      refine J_iconst 20 dX7_rank_19 rfl ?_
      refine J_icmp_ne 30 23 dX7_rank_20 rfl rfl (fun c18 => ?_) (fun c18 => ?_)
      · refine J_bipush 32 dX7_rank_30 rfl (by decide) ?_
        refine J_iload_n (i := 2) 33 dX7_rank_32 rfl rfl rfl ?_
        refine J_imul 34 dX7_rank_33 rfl ?_
        refine J_bipush 36 dX7_rank_34 rfl (by decide) ?_
        refine J_aload_n (i := 0) 37 dX7_rank_36 rfl rfl rfl ?_
        refine J_getR 40 dX7_rank_37 rfl fX7_40 rfl rfl ?_
        refine J_iload_n (i := 1) 41 dX7_rank_40 rfl rfl rfl ?_
        refine J_iald (N := 6) (lo := 0) (hi := 9) 42 dX7_rank_41 rfl rfl rfl rfl (fun b19 b20 => ?_)
        refine J_imul 43 dX7_rank_42 rfl ?_
        refine J_isub 44 dX7_rank_43 rfl ?_
        refine J_iload_n (i := 1) 45 dX7_rank_44 rfl rfl rfl ?_
        refine J_isub 46 dX7_rank_45 rfl ?_
        refine J_iret dX7_rank_46 rfl ?_
        first
          | (exfalso; omega)
          | (refine ⟨?_, rfl⟩; simp only [rankM, vC, Nat.reduceLeDiff, ↓reduceIte, Nat.reduceAdd]; simp [*])
      · refine J_aload_n (i := 0) 24 dX7_rank_23 rfl rfl rfl ?_
        refine J_getR 27 dX7_rank_24 rfl fX7_31 rfl rfl ?_
        refine J_iload_n (i := 1) 28 dX7_rank_27 rfl rfl rfl ?_
        refine J_iald (N := 6) (lo := 0) (hi := 9) 29 dX7_rank_28 rfl rfl rfl rfl (fun b21 b22 => ?_)
        refine J_istore_n (i := 2) 30 dX7_rank_29 rfl rfl (by decide) ?_
        refine J_bipush 32 dX7_rank_30 rfl (by decide) ?_
        refine J_iload_n (i := 2) 33 dX7_rank_32 rfl rfl rfl ?_
        refine J_imul 34 dX7_rank_33 rfl ?_
        refine J_bipush 36 dX7_rank_34 rfl (by decide) ?_
        refine J_aload_n (i := 0) 37 dX7_rank_36 rfl rfl rfl ?_
        refine J_getR 40 dX7_rank_37 rfl fX7_40 rfl rfl ?_
        refine J_iload_n (i := 1) 41 dX7_rank_40 rfl rfl rfl ?_
        refine J_iald (N := 6) (lo := 0) (hi := 9) 42 dX7_rank_41 rfl rfl rfl rfl (fun b23 b24 => ?_)
        refine J_imul 43 dX7_rank_42 rfl ?_
        refine J_isub 44 dX7_rank_43 rfl ?_
        refine J_iload_n (i := 1) 45 dX7_rank_44 rfl rfl rfl ?_
        refine J_isub 46 dX7_rank_45 rfl ?_
        refine J_iret dX7_rank_46 rfl ?_
        first
          | (exfalso; omega)
          | (refine ⟨?_, rfl⟩; simp only [rankM, vC, Nat.reduceLeDiff, ↓reduceIte, Nat.reduceAdd]; simp [*])
  )

set_option maxHeartbeats 4000000 in
theorem l_X7_placeOf (hw : w = 1 ∨ w = 8) (hc : 0 ≤ c ∧ c < 6) {own : Int} (ho : own = rankM (vC σ w) c) : ∀ (k i : Nat) (d r : Int), i + k = nM (vC σ w) → d = i → r = sumN (placeF (vC σ w) c) i → J P 3 (RX7, cX7_placeOf, 5, some .int) 11 [some (vr P w), some (vi c), some (vi own), some (vi r), some (vi d)] [] σ (rI (placeM (vC σ w) c) σ) := by
  intro k
  induction k with
  | zero =>
    intro i d r hi hd hr
    refine J.bd (fun hB => ?_)
    have hn := vC_n hB hw
    have hvB := vC_B hB hw
    have hrk := rankM_b hvB (c := c) (by omega)
    have hrd := rankM_b hvB (c := d) (by omega)
    have hpb := sumN_b (placeF_b (vC σ w) c) i
    rcases hw with rfl | rfl <;> (
      refine J_iload 13 dX7_placeOf_11 rfl rfl ?_
      refine J_aload_n (i := 0) 14 dX7_placeOf_13 rfl rfl rfl ?_
      refine J_getI (jz := 1) (lo := 0) (hi := 6) 17 dX7_placeOf_14 rfl fX7_15 rfl rfl rfl rfl (fun b1 b2 => ?_)
      refine J_icmp_ge 55 20 dX7_placeOf_17 rfl rfl (fun c3 => ?_) (fun c3 => ?_)
      · refine J_iload_n (i := 3) 56 dX7_placeOf_55 rfl rfl rfl ?_
        refine J_iret dX7_placeOf_56 rfl ?_
        refine ⟨?_, rfl⟩
        subst hr
        rw [Nat.add_zero] at hi
        rw [hi]
        try rfl
      · exfalso; omega
    )
  | succ k ih =>
    intro i d r hi hd hr
    refine J.bd (fun hB => ?_)
    have hn := vC_n hB hw
    have hvB := vC_B hB hw
    have hrk := rankM_b hvB (c := c) (by omega)
    have hrd := rankM_b hvB (c := d) (by omega)
    have hpb := sumN_b (placeF_b (vC σ w) c) i
    rcases hw with rfl | rfl <;> (
      refine J_iload 13 dX7_placeOf_11 rfl rfl ?_
      refine J_aload_n (i := 0) 14 dX7_placeOf_13 rfl rfl rfl ?_
      refine J_getI (jz := 1) (lo := 0) (hi := 6) 17 dX7_placeOf_14 rfl fX7_15 rfl rfl rfl rfl (fun b1 b2 => ?_)
      refine J_icmp_ge 55 20 dX7_placeOf_17 rfl rfl (fun c3 => ?_) (fun c3 => ?_)
      · exfalso; omega
      · refine J_aload_n (i := 0) 21 dX7_placeOf_20 rfl rfl rfl ?_
        refine J_getR 24 dX7_placeOf_21 rfl fX7_37 rfl rfl ?_
        refine J_iload 26 dX7_placeOf_24 rfl rfl ?_
        refine J_iald (N := 6) (lo := 0) (hi := 2) 27 dX7_placeOf_26 rfl rfl rfl rfl (fun b4 b5 => ?_)
        refine J_aload_n (i := 0) 28 dX7_placeOf_27 rfl rfl rfl ?_
        refine J_getR 31 dX7_placeOf_28 rfl fX7_37 rfl rfl ?_
        refine J_iload_n (i := 1) 32 dX7_placeOf_31 rfl rfl rfl ?_
        refine J_iald (N := 6) (lo := 0) (hi := 2) 33 dX7_placeOf_32 rfl rfl rfl rfl (fun b6 b7 => ?_)
        refine J_icmp_ne 49 36 dX7_placeOf_33 rfl rfl (fun c8 => ?_) (fun c8 => ?_)
        · refine J_iinc 52 dX7_placeOf_49 rfl (by decide) rfl ?_
          refine J_goto 11 dX7_placeOf_52 rfl ?_
          refine ih (i + 1) _ _ (by omega) (by omega) ?_
          subst hd hr ho
          simp only [sumN]
          unfold placeF
          split <;> rename_i hf <;> (try simp only [vC, Nat.reduceLeDiff, ↓reduceIte, Nat.reduceAdd] at hf ⊢) <;> omega
        · refine J_aload_n (i := 0) 37 dX7_placeOf_36 rfl rfl rfl ?_
          refine J_iload 39 dX7_placeOf_37 rfl rfl ?_
          refine J_callVi 42 dX7_placeOf_39 rfl kX7_53 mX7_rank rfl rfl rfl (c_X7_rank) (by decide) rfl rfl (Nat.le_of_ble_eq_true rfl) (fun z10 s11 h9 => ?_)
          obtain ⟨rfl, rfl⟩ := h9
          refine J_iload_n (i := 2) 43 dX7_placeOf_42 rfl rfl rfl ?_
          refine J_icmp_le 49 46 dX7_placeOf_43 rfl rfl (fun c12 => ?_) (fun c12 => ?_)
          · refine J_iinc 52 dX7_placeOf_49 rfl (by decide) rfl ?_
            refine J_goto 11 dX7_placeOf_52 rfl ?_
            refine ih (i + 1) _ _ (by omega) (by omega) ?_
            subst hd hr ho
            simp only [sumN]
            unfold placeF
            split <;> rename_i hf <;> (try simp only [vC, Nat.reduceLeDiff, ↓reduceIte, Nat.reduceAdd] at hf ⊢) <;> omega
          · refine J_iinc 49 dX7_placeOf_46 rfl (by decide) rfl ?_
            refine J_iinc 52 dX7_placeOf_49 rfl (by decide) rfl ?_
            refine J_goto 11 dX7_placeOf_52 rfl ?_
            refine ih (i + 1) _ _ (by omega) (by omega) ?_
            subst hd hr ho
            simp only [sumN]
            unfold placeF
            split <;> rename_i hf <;> (try simp only [vC, Nat.reduceLeDiff, ↓reduceIte, Nat.reduceAdd] at hf ⊢) <;> omega
    )
theorem c_X7_placeOf (hw : w = 1 ∨ w = 8 := by omega) (hc : 0 ≤ c ∧ c < 6 := by omega) : Ct P 3 yX7_placeOf cX7_placeOf 5 (some .int) [vr P w, vi c] σ (rI (placeM (vC σ w) c) σ) := by
  have hw' := hw
  rcases hw with rfl | rfl <;> (
    refine Ct.of _ rfl rfl rfl (Nat.le_of_ble_eq_true rfl) (fun hB => ?_)
    refine J_aload_n (i := 0) 1 dX7_placeOf_0 rfl rfl rfl ?_
    refine J_iload_n (i := 1) 2 dX7_placeOf_1 rfl rfl rfl ?_
    refine J_callVi 5 dX7_placeOf_2 rfl kX7_53 mX7_rank rfl rfl rfl (c_X7_rank) (by decide) rfl rfl (Nat.le_of_ble_eq_true rfl) (fun z2 s3 h1 => ?_)
    obtain ⟨rfl, rfl⟩ := h1
    refine J_istore_n (i := 2) 6 dX7_placeOf_5 rfl rfl (by decide) ?_
    refine J_iconst 7 dX7_placeOf_6 rfl ?_
    refine J_istore_n (i := 3) 8 dX7_placeOf_7 rfl rfl (by decide) ?_
    refine J_iconst 9 dX7_placeOf_8 rfl ?_
    refine J_istore 11 dX7_placeOf_9 rfl (by decide) ?_
    exact l_X7_placeOf hw' hc rfl _ 0 _ _ (Nat.zero_add _) rfl rfl
  )
set_option maxHeartbeats 4000000 in
theorem l_X7_eats (hw : w = 1 ∨ w = 8) (hc : 0 ≤ c ∧ c < 6) {own : Int} (ho : own = rankM (vC σ w) c) : ∀ (k i : Nat) (d r : Int), i + k = nM (vC σ w) → d = i → r = vC σ w 1 (vC σ w 5 c) - sumN (takeF (vC σ w) c) i → J P 3 (RX7, cX7_eats, 5, some .int) 21 [some (vr P w), some (vi c), some (vi own), some (vi r), some (vi d)] [] σ (rI (eatsM (vC σ w) c) σ) := by
  intro k
  induction k with
  | zero =>
    intro i d r hi hd hr
    refine J.bd (fun hB => ?_)
    have hn := vC_n hB hw
    have hvB := vC_B hB hw
    have hrk := rankM_b hvB (c := c) (by omega)
    have hrd := rankM_b hvB (c := d) (by omega)
    have hpb := sumN_b (takeF_b hvB c) i
    have hlb := hvB.2.2.2.2.1 (vC σ w 5 c)
    rcases hw with rfl | rfl <;> (
      refine J_iload 23 dX7_eats_21 rfl rfl ?_
      refine J_aload_n (i := 0) 24 dX7_eats_23 rfl rfl rfl ?_
      refine J_getI (jz := 1) (lo := 0) (hi := 6) 27 dX7_eats_24 rfl fX7_15 rfl rfl rfl rfl (fun b1 b2 => ?_)
      refine J_icmp_ge 72 30 dX7_eats_27 rfl rfl (fun c3 => ?_) (fun c3 => ?_)
      · refine J_iconst 73 dX7_eats_72 rfl ?_
        refine J_iload_n (i := 3) 74 dX7_eats_73 rfl rfl rfl ?_
        refine J_aload_n (i := 0) 75 dX7_eats_74 rfl rfl rfl ?_
        refine J_getR 78 dX7_eats_75 rfl fX7_31 rfl rfl ?_
        refine J_iload_n (i := 1) 79 dX7_eats_78 rfl rfl rfl ?_
        refine J_iald (N := 6) (lo := 0) (hi := 9) 80 dX7_eats_79 rfl rfl rfl rfl (fun b4 b5 => ?_)
        refine J_mmin 83 dX7_eats_80 rfl kX7_56 (by decide) (Nat.le_of_ble_eq_true rfl) ?_
        refine J_mmax 86 dX7_eats_83 rfl kX7_62 (by decide) (Nat.le_of_ble_eq_true rfl) ?_
        refine J_iret dX7_eats_86 rfl ?_
        refine ⟨?_, rfl⟩
        subst hr
        rw [Nat.add_zero] at hi
        rw [hi]
        try rfl
      · exfalso; omega
    )
  | succ k ih =>
    intro i d r hi hd hr
    refine J.bd (fun hB => ?_)
    have hn := vC_n hB hw
    have hvB := vC_B hB hw
    have hrk := rankM_b hvB (c := c) (by omega)
    have hrd := rankM_b hvB (c := d) (by omega)
    have hpb := sumN_b (takeF_b hvB c) i
    have hlb := hvB.2.2.2.2.1 (vC σ w 5 c)
    rcases hw with rfl | rfl <;> (
      refine J_iload 23 dX7_eats_21 rfl rfl ?_
      refine J_aload_n (i := 0) 24 dX7_eats_23 rfl rfl rfl ?_
      refine J_getI (jz := 1) (lo := 0) (hi := 6) 27 dX7_eats_24 rfl fX7_15 rfl rfl rfl rfl (fun b1 b2 => ?_)
      refine J_icmp_ge 72 30 dX7_eats_27 rfl rfl (fun c3 => ?_) (fun c3 => ?_)
      · exfalso; omega
      · refine J_aload_n (i := 0) 31 dX7_eats_30 rfl rfl rfl ?_
        refine J_getR 34 dX7_eats_31 rfl fX7_37 rfl rfl ?_
        refine J_iload 36 dX7_eats_34 rfl rfl ?_
        refine J_iald (N := 6) (lo := 0) (hi := 2) 37 dX7_eats_36 rfl rfl rfl rfl (fun b4 b5 => ?_)
        refine J_aload_n (i := 0) 38 dX7_eats_37 rfl rfl rfl ?_
        refine J_getR 41 dX7_eats_38 rfl fX7_37 rfl rfl ?_
        refine J_iload_n (i := 1) 42 dX7_eats_41 rfl rfl rfl ?_
        refine J_iald (N := 6) (lo := 0) (hi := 2) 43 dX7_eats_42 rfl rfl rfl rfl (fun b6 b7 => ?_)
        refine J_icmp_ne 66 46 dX7_eats_43 rfl rfl (fun c8 => ?_) (fun c8 => ?_)
        · refine J_iinc 69 dX7_eats_66 rfl (by decide) rfl ?_
          refine J_goto 21 dX7_eats_69 rfl ?_
          refine ih (i + 1) _ _ (by omega) (by omega) ?_
          subst hd hr ho
          simp only [sumN]
          unfold takeF
          split <;> rename_i hf <;> (try simp only [vC, Nat.reduceLeDiff, ↓reduceIte, Nat.reduceAdd] at hf ⊢) <;> omega
        · refine J_aload_n (i := 0) 47 dX7_eats_46 rfl rfl rfl ?_
          refine J_iload 49 dX7_eats_47 rfl rfl ?_
          refine J_callVi 52 dX7_eats_49 rfl kX7_53 mX7_rank rfl rfl rfl (c_X7_rank) (by decide) rfl rfl (Nat.le_of_ble_eq_true rfl) (fun z10 s11 h9 => ?_)
          obtain ⟨rfl, rfl⟩ := h9
          refine J_iload_n (i := 2) 53 dX7_eats_52 rfl rfl rfl ?_
          refine J_icmp_le 66 56 dX7_eats_53 rfl rfl (fun c12 => ?_) (fun c12 => ?_)
          · refine J_iinc 69 dX7_eats_66 rfl (by decide) rfl ?_
            refine J_goto 21 dX7_eats_69 rfl ?_
            refine ih (i + 1) _ _ (by omega) (by omega) ?_
            subst hd hr ho
            simp only [sumN]
            unfold takeF
            split <;> rename_i hf <;> (try simp only [vC, Nat.reduceLeDiff, ↓reduceIte, Nat.reduceAdd] at hf ⊢) <;> omega
          · refine J_iload_n (i := 3) 57 dX7_eats_56 rfl rfl rfl ?_
            refine J_aload_n (i := 0) 58 dX7_eats_57 rfl rfl rfl ?_
            refine J_getR 61 dX7_eats_58 rfl fX7_31 rfl rfl ?_
            refine J_iload 63 dX7_eats_61 rfl rfl ?_
            refine J_iald (N := 6) (lo := 0) (hi := 9) 64 dX7_eats_63 rfl rfl rfl rfl (fun b13 b14 => ?_)
            refine J_isub 65 dX7_eats_64 rfl ?_
            refine J_istore_n (i := 3) 66 dX7_eats_65 rfl rfl (by decide) ?_
            refine J_iinc 69 dX7_eats_66 rfl (by decide) rfl ?_
            refine J_goto 21 dX7_eats_69 rfl ?_
            refine ih (i + 1) _ _ (by omega) (by omega) ?_
            subst hd hr ho
            simp only [sumN]
            unfold takeF
            split <;> rename_i hf <;> (try simp only [vC, Nat.reduceLeDiff, ↓reduceIte, Nat.reduceAdd] at hf ⊢) <;> omega
    )
theorem c_X7_eats (hw : w = 1 ∨ w = 8 := by omega) (hc : 0 ≤ c ∧ c < 6 := by omega) : Ct P 3 yX7_eats cX7_eats 5 (some .int) [vr P w, vi c] σ (rI (eatsM (vC σ w) c) σ) := by
  have hw' := hw
  rcases hw with rfl | rfl <;> (
    refine Ct.of _ rfl rfl rfl (Nat.le_of_ble_eq_true rfl) (fun hB => ?_)
    refine J_aload_n (i := 0) 1 dX7_eats_0 rfl rfl rfl ?_
    refine J_iload_n (i := 1) 2 dX7_eats_1 rfl rfl rfl ?_
    refine J_callVi 5 dX7_eats_2 rfl kX7_53 mX7_rank rfl rfl rfl (c_X7_rank) (by decide) rfl rfl (Nat.le_of_ble_eq_true rfl) (fun z2 s3 h1 => ?_)
    obtain ⟨rfl, rfl⟩ := h1
    refine J_istore_n (i := 2) 6 dX7_eats_5 rfl rfl (by decide) ?_
    refine J_aload_n (i := 0) 7 dX7_eats_6 rfl rfl rfl ?_
    refine J_getR 10 dX7_eats_7 rfl fX7_24 rfl rfl ?_
    refine J_aload_n (i := 0) 11 dX7_eats_10 rfl rfl rfl ?_
    refine J_getR 14 dX7_eats_11 rfl fX7_37 rfl rfl ?_
    refine J_iload_n (i := 1) 15 dX7_eats_14 rfl rfl rfl ?_
    refine J_iald (N := 6) (lo := 0) (hi := 2) 16 dX7_eats_15 rfl rfl rfl rfl (fun b4 b5 => ?_)
    refine J_iald (N := 3) (lo := 0) (hi := 9) 17 dX7_eats_16 rfl rfl rfl rfl (fun b6 b7 => ?_)
    refine J_istore_n (i := 3) 18 dX7_eats_17 rfl rfl (by decide) ?_
    refine J_iconst 19 dX7_eats_18 rfl ?_
    refine J_istore 21 dX7_eats_19 rfl (by decide) ?_
    exact l_X7_eats hw' hc rfl _ 0 _ _ (Nat.zero_add _) rfl (by simp [sumN, vC])
  )
set_option maxHeartbeats 4000000 in
theorem l_X7_starving (hw : w = 1 ∨ w = 8) : ∀ (k i : Nat) (d r : Int), i + k = nM (vC σ w) → d = i → r = setN (outM (vC σ w)) i → J P 4 (RX7, cX7_starving, 3, some .int) 4 [some (vr P w), some (vi r), some (vi d)] [] σ (rI (starvM (vC σ w)) σ) := by
  intro k
  induction k with
  | zero =>
    intro i d r hi hd hr
    refine J.bd (fun hB => ?_)
    have hn := vC_n hB hw
    have hvB := vC_B hB hw
    have hp : (2:Int) ^ d.toNat ≤ 64 ∧ 0 < (2:Int) ^ d.toNat := pow_64 (by omega)
    have hsb := setN_64 (outM (vC σ w)) (n := i) (by omega)
    have heb := eatsM_b hvB d
    rcases hw with rfl | rfl <;> (
      refine J_iload_n (i := 2) 5 dX7_starving_4 rfl rfl rfl ?_
      refine J_aload_n (i := 0) 6 dX7_starving_5 rfl rfl rfl ?_
      refine J_getI (jz := 1) (lo := 0) (hi := 6) 9 dX7_starving_6 rfl fX7_15 rfl rfl rfl rfl (fun b1 b2 => ?_)
      refine J_icmp_ge 41 12 dX7_starving_9 rfl rfl (fun c3 => ?_) (fun c3 => ?_)
      · refine J_iload_n (i := 1) 42 dX7_starving_41 rfl rfl rfl ?_
        refine J_iret dX7_starving_42 rfl ?_
        refine ⟨?_, rfl⟩
        subst hr
        rw [Nat.add_zero] at hi
        rw [hi]
        try rfl
      · exfalso; omega
    )
  | succ k ih =>
    intro i d r hi hd hr
    refine J.bd (fun hB => ?_)
    have hn := vC_n hB hw
    have hvB := vC_B hB hw
    have hp : (2:Int) ^ d.toNat ≤ 64 ∧ 0 < (2:Int) ^ d.toNat := pow_64 (by omega)
    have hsb := setN_64 (outM (vC σ w)) (n := i) (by omega)
    have heb := eatsM_b hvB d
    rcases hw with rfl | rfl <;> (
      refine J_iload_n (i := 2) 5 dX7_starving_4 rfl rfl rfl ?_
      refine J_aload_n (i := 0) 6 dX7_starving_5 rfl rfl rfl ?_
      refine J_getI (jz := 1) (lo := 0) (hi := 6) 9 dX7_starving_6 rfl fX7_15 rfl rfl rfl rfl (fun b1 b2 => ?_)
      refine J_icmp_ge 41 12 dX7_starving_9 rfl rfl (fun c3 => ?_) (fun c3 => ?_)
      · exfalso; omega
      · refine J_aload_n (i := 0) 13 dX7_starving_12 rfl rfl rfl ?_
        refine J_getR 16 dX7_starving_13 rfl fX7_31 rfl rfl ?_
        refine J_iload_n (i := 2) 17 dX7_starving_16 rfl rfl rfl ?_
        refine J_iald (N := 6) (lo := 0) (hi := 9) 18 dX7_starving_17 rfl rfl rfl rfl (fun b4 b5 => ?_)
        refine J_if_le 35 21 dX7_starving_18 rfl rfl (fun c6 => ?_) (fun c6 => ?_)
        · refine J_iinc 38 dX7_starving_35 rfl (by decide) rfl ?_
          refine J_goto 4 dX7_starving_38 rfl ?_
          refine ih (i + 1) _ _ (by omega) (by omega) ?_
          subst hd hr
          simp only [setN, Int.toNat_natCast, ior_pow (setN_b _ i)]
          split <;> rename_i hf <;> simp only [outM, decide_eq_true_eq] at hf <;> simp only [vC, Nat.reduceLeDiff, ↓reduceIte, Nat.reduceAdd] at hf <;> first | rfl | (exfalso; omega)
        · refine J_aload_n (i := 0) 22 dX7_starving_21 rfl rfl rfl ?_
          refine J_iload_n (i := 2) 23 dX7_starving_22 rfl rfl rfl ?_
          refine J_callVi 26 dX7_starving_23 rfl kX7_65 mX7_eats rfl rfl rfl (c_X7_eats) (by decide) rfl rfl (Nat.le_of_ble_eq_true rfl) (fun z8 s9 h7 => ?_)
          obtain ⟨rfl, rfl⟩ := h7
          refine J_if_ne 35 29 dX7_starving_26 rfl rfl (fun c10 => ?_) (fun c10 => ?_)
          · refine J_iinc 38 dX7_starving_35 rfl (by decide) rfl ?_
            refine J_goto 4 dX7_starving_38 rfl ?_
            refine ih (i + 1) _ _ (by omega) (by omega) ?_
            subst hd hr
            simp only [setN, Int.toNat_natCast, ior_pow (setN_b _ i)]
            split <;> rename_i hf <;> simp only [outM, decide_eq_true_eq] at hf <;> simp only [vC, Nat.reduceLeDiff, ↓reduceIte, Nat.reduceAdd] at hf <;> first | rfl | (exfalso; omega)
          · refine J_iload_n (i := 1) 30 dX7_starving_29 rfl rfl rfl ?_
            refine J_iconst 31 dX7_starving_30 rfl ?_
            refine J_iload_n (i := 2) 32 dX7_starving_31 rfl rfl rfl ?_
            refine J_ishl1 33 dX7_starving_32 rfl ?_
            refine J_ior 34 dX7_starving_33 rfl ?_
            refine J_istore_n (i := 1) 35 dX7_starving_34 rfl rfl (by decide) ?_
            refine J_iinc 38 dX7_starving_35 rfl (by decide) rfl ?_
            refine J_goto 4 dX7_starving_38 rfl ?_
            refine ih (i + 1) _ _ (by omega) (by omega) ?_
            subst hd hr
            simp only [setN, Int.toNat_natCast, ior_pow (setN_b _ i)]
            split <;> rename_i hf <;> simp only [outM, decide_eq_true_eq] at hf <;> simp only [vC, Nat.reduceLeDiff, ↓reduceIte, Nat.reduceAdd] at hf <;> first | rfl | (exfalso; omega)
    )
theorem c_X7_starving (hw : w = 1 ∨ w = 8 := by omega) : Ct P 4 yX7_starving cX7_starving 3 (some .int) [vr P w] σ (rI (starvM (vC σ w)) σ) := by
  have hw' := hw
  rcases hw with rfl | rfl <;> (
    refine Ct.of _ rfl rfl rfl (Nat.le_of_ble_eq_true rfl) (fun hB => ?_)
    refine J_iconst 1 dX7_starving_0 rfl ?_
    refine J_istore_n (i := 1) 2 dX7_starving_1 rfl rfl (by decide) ?_
    refine J_iconst 3 dX7_starving_2 rfl ?_
    refine J_istore_n (i := 2) 4 dX7_starving_3 rfl rfl (by decide) ?_
    exact l_X7_starving hw'  _ 0 _ _ (Nat.zero_add _) rfl rfl
  )
set_option maxHeartbeats 4000000 in
theorem l_X7_hungrierThan (hw : w = 1 ∨ w = 8) (hc : 0 ≤ c ∧ c < 6) : ∀ (k i : Nat) (d r : Int), i + k = nM (vC σ w) → d = i → r = setN (fun d => decide (vC σ w 3 c < vC σ w 3 d)) i → J P 1 (RX7, cX7_hungrierThan, 4, some .int) 4 [some (vr P w), some (vi c), some (vi r), some (vi d)] [] σ (rI (hungrierM (vC σ w) c) σ) := by
  intro k
  induction k with
  | zero =>
    intro i d r hi hd hr
    refine J.bd (fun hB => ?_)
    have hn := vC_n hB hw
    have hvB := vC_B hB hw
    have hp : (2:Int) ^ d.toNat ≤ 64 ∧ 0 < (2:Int) ^ d.toNat := pow_64 (by omega)
    have hsb := setN_64 (fun d => decide (vC σ w 3 c < vC σ w 3 d)) (n := i) (by omega)
    rcases hw with rfl | rfl <;> (
      refine J_iload_n (i := 3) 5 dX7_hungrierThan_4 rfl rfl rfl ?_
      refine J_aload_n (i := 0) 6 dX7_hungrierThan_5 rfl rfl rfl ?_
      refine J_getI (jz := 1) (lo := 0) (hi := 6) 9 dX7_hungrierThan_6 rfl fX7_15 rfl rfl rfl rfl (fun b1 b2 => ?_)
      refine J_icmp_ge 39 12 dX7_hungrierThan_9 rfl rfl (fun c3 => ?_) (fun c3 => ?_)
      · refine J_iload_n (i := 2) 40 dX7_hungrierThan_39 rfl rfl rfl ?_
        refine J_iret dX7_hungrierThan_40 rfl ?_
        refine ⟨?_, rfl⟩
        subst hr
        rw [Nat.add_zero] at hi
        rw [hi]
        try rfl
      · exfalso; omega
    )
  | succ k ih =>
    intro i d r hi hd hr
    refine J.bd (fun hB => ?_)
    have hn := vC_n hB hw
    have hvB := vC_B hB hw
    have hp : (2:Int) ^ d.toNat ≤ 64 ∧ 0 < (2:Int) ^ d.toNat := pow_64 (by omega)
    have hsb := setN_64 (fun d => decide (vC σ w 3 c < vC σ w 3 d)) (n := i) (by omega)
    rcases hw with rfl | rfl <;> (
      refine J_iload_n (i := 3) 5 dX7_hungrierThan_4 rfl rfl rfl ?_
      refine J_aload_n (i := 0) 6 dX7_hungrierThan_5 rfl rfl rfl ?_
      refine J_getI (jz := 1) (lo := 0) (hi := 6) 9 dX7_hungrierThan_6 rfl fX7_15 rfl rfl rfl rfl (fun b1 b2 => ?_)
      refine J_icmp_ge 39 12 dX7_hungrierThan_9 rfl rfl (fun c3 => ?_) (fun c3 => ?_)
      · exfalso; omega
      · refine J_aload_n (i := 0) 13 dX7_hungrierThan_12 rfl rfl rfl ?_
        refine J_getR 16 dX7_hungrierThan_13 rfl fX7_31 rfl rfl ?_
        refine J_iload_n (i := 3) 17 dX7_hungrierThan_16 rfl rfl rfl ?_
        refine J_iald (N := 6) (lo := 0) (hi := 9) 18 dX7_hungrierThan_17 rfl rfl rfl rfl (fun b4 b5 => ?_)
        refine J_aload_n (i := 0) 19 dX7_hungrierThan_18 rfl rfl rfl ?_
        refine J_getR 22 dX7_hungrierThan_19 rfl fX7_31 rfl rfl ?_
        refine J_iload_n (i := 1) 23 dX7_hungrierThan_22 rfl rfl rfl ?_
        refine J_iald (N := 6) (lo := 0) (hi := 9) 24 dX7_hungrierThan_23 rfl rfl rfl rfl (fun b6 b7 => ?_)
        refine J_icmp_le 33 27 dX7_hungrierThan_24 rfl rfl (fun c8 => ?_) (fun c8 => ?_)
        · refine J_iinc 36 dX7_hungrierThan_33 rfl (by decide) rfl ?_
          refine J_goto 4 dX7_hungrierThan_36 rfl ?_
          refine ih (i + 1) _ _ (by omega) (by omega) ?_
          subst hd hr
          simp only [setN, Int.toNat_natCast, ior_pow (setN_b _ i)]
          split <;> rename_i hf <;> simp only [decide_eq_true_eq] at hf <;> simp only [vC, Nat.reduceLeDiff, ↓reduceIte, Nat.reduceAdd] at hf <;> first | rfl | (exfalso; omega)
        · refine J_iload_n (i := 2) 28 dX7_hungrierThan_27 rfl rfl rfl ?_
          refine J_iconst 29 dX7_hungrierThan_28 rfl ?_
          refine J_iload_n (i := 3) 30 dX7_hungrierThan_29 rfl rfl rfl ?_
          refine J_ishl1 31 dX7_hungrierThan_30 rfl ?_
          refine J_ior 32 dX7_hungrierThan_31 rfl ?_
          refine J_istore_n (i := 2) 33 dX7_hungrierThan_32 rfl rfl (by decide) ?_
          refine J_iinc 36 dX7_hungrierThan_33 rfl (by decide) rfl ?_
          refine J_goto 4 dX7_hungrierThan_36 rfl ?_
          refine ih (i + 1) _ _ (by omega) (by omega) ?_
          subst hd hr
          simp only [setN, Int.toNat_natCast, ior_pow (setN_b _ i)]
          split <;> rename_i hf <;> simp only [decide_eq_true_eq] at hf <;> simp only [vC, Nat.reduceLeDiff, ↓reduceIte, Nat.reduceAdd] at hf <;> first | rfl | (exfalso; omega)
    )
theorem c_X7_hungrierThan (hw : w = 1 ∨ w = 8 := by omega) (hc : 0 ≤ c ∧ c < 6 := by omega) : Ct P 1 yX7_hungrierThan cX7_hungrierThan 4 (some .int) [vr P w, vi c] σ (rI (hungrierM (vC σ w) c) σ) := by
  have hw' := hw
  rcases hw with rfl | rfl <;> (
    refine Ct.of _ rfl rfl rfl (Nat.le_of_ble_eq_true rfl) (fun hB => ?_)
    refine J_iconst 1 dX7_hungrierThan_0 rfl ?_
    refine J_istore_n (i := 2) 2 dX7_hungrierThan_1 rfl rfl (by decide) ?_
    refine J_iconst 3 dX7_hungrierThan_2 rfl ?_
    refine J_istore_n (i := 3) 4 dX7_hungrierThan_3 rfl rfl (by decide) ?_
    exact l_X7_hungrierThan hw' hc _ 0 _ _ (Nat.zero_add _) rfl rfl
  )
set_option maxHeartbeats 4000000 in
theorem l_X7_comersAt (hw : w = 1 ∨ w = 8) (hg : inR g) : ∀ (k i : Nat) (d r : Int), i + k = nM (vC σ w) → d = i → r = setN (fun c => decide (vC σ w 5 c = g)) i → J P 1 (RX7, cX7_comersAt, 4, some .int) 4 [some (vr P w), some (vi g), some (vi r), some (vi d)] [] σ (rI (atM (vC σ w) g) σ) := by
  intro k
  induction k with
  | zero =>
    intro i d r hi hd hr
    refine J.bd (fun hB => ?_)
    have hn := vC_n hB hw
    have hvB := vC_B hB hw
    have hp : (2:Int) ^ d.toNat ≤ 64 ∧ 0 < (2:Int) ^ d.toNat := pow_64 (by omega)
    have hsb := setN_64 (fun c => decide (vC σ w 5 c = g)) (n := i) (by omega)
    rcases hw with rfl | rfl <;> (
      refine J_iload_n (i := 3) 5 dX7_comersAt_4 rfl rfl rfl ?_
      refine J_aload_n (i := 0) 6 dX7_comersAt_5 rfl rfl rfl ?_
      refine J_getI (jz := 1) (lo := 0) (hi := 6) 9 dX7_comersAt_6 rfl fX7_15 rfl rfl rfl rfl (fun b1 b2 => ?_)
      refine J_icmp_ge 34 12 dX7_comersAt_9 rfl rfl (fun c3 => ?_) (fun c3 => ?_)
      · refine J_iload_n (i := 2) 35 dX7_comersAt_34 rfl rfl rfl ?_
        refine J_iret dX7_comersAt_35 rfl ?_
        refine ⟨?_, rfl⟩
        subst hr
        rw [Nat.add_zero] at hi
        rw [hi]
        try rfl
      · exfalso; omega
    )
  | succ k ih =>
    intro i d r hi hd hr
    refine J.bd (fun hB => ?_)
    have hn := vC_n hB hw
    have hvB := vC_B hB hw
    have hp : (2:Int) ^ d.toNat ≤ 64 ∧ 0 < (2:Int) ^ d.toNat := pow_64 (by omega)
    have hsb := setN_64 (fun c => decide (vC σ w 5 c = g)) (n := i) (by omega)
    rcases hw with rfl | rfl <;> (
      refine J_iload_n (i := 3) 5 dX7_comersAt_4 rfl rfl rfl ?_
      refine J_aload_n (i := 0) 6 dX7_comersAt_5 rfl rfl rfl ?_
      refine J_getI (jz := 1) (lo := 0) (hi := 6) 9 dX7_comersAt_6 rfl fX7_15 rfl rfl rfl rfl (fun b1 b2 => ?_)
      refine J_icmp_ge 34 12 dX7_comersAt_9 rfl rfl (fun c3 => ?_) (fun c3 => ?_)
      · exfalso; omega
      · refine J_aload_n (i := 0) 13 dX7_comersAt_12 rfl rfl rfl ?_
        refine J_getR 16 dX7_comersAt_13 rfl fX7_37 rfl rfl ?_
        refine J_iload_n (i := 3) 17 dX7_comersAt_16 rfl rfl rfl ?_
        refine J_iald (N := 6) (lo := 0) (hi := 2) 18 dX7_comersAt_17 rfl rfl rfl rfl (fun b4 b5 => ?_)
        refine J_iload_n (i := 1) 19 dX7_comersAt_18 rfl rfl rfl ?_
        refine J_icmp_ne 28 22 dX7_comersAt_19 rfl rfl (fun c6 => ?_) (fun c6 => ?_)
        · refine J_iinc 31 dX7_comersAt_28 rfl (by decide) rfl ?_
          refine J_goto 4 dX7_comersAt_31 rfl ?_
          refine ih (i + 1) _ _ (by omega) (by omega) ?_
          subst hd hr
          simp only [setN, Int.toNat_natCast, ior_pow (setN_b _ i)]
          split <;> rename_i hf <;> simp only [decide_eq_true_eq] at hf <;> simp only [vC, Nat.reduceLeDiff, ↓reduceIte, Nat.reduceAdd] at hf <;> first | rfl | (exfalso; omega)
        · refine J_iload_n (i := 2) 23 dX7_comersAt_22 rfl rfl rfl ?_
          refine J_iconst 24 dX7_comersAt_23 rfl ?_
          refine J_iload_n (i := 3) 25 dX7_comersAt_24 rfl rfl rfl ?_
          refine J_ishl1 26 dX7_comersAt_25 rfl ?_
          refine J_ior 27 dX7_comersAt_26 rfl ?_
          refine J_istore_n (i := 2) 28 dX7_comersAt_27 rfl rfl (by decide) ?_
          refine J_iinc 31 dX7_comersAt_28 rfl (by decide) rfl ?_
          refine J_goto 4 dX7_comersAt_31 rfl ?_
          refine ih (i + 1) _ _ (by omega) (by omega) ?_
          subst hd hr
          simp only [setN, Int.toNat_natCast, ior_pow (setN_b _ i)]
          split <;> rename_i hf <;> simp only [decide_eq_true_eq] at hf <;> simp only [vC, Nat.reduceLeDiff, ↓reduceIte, Nat.reduceAdd] at hf <;> first | rfl | (exfalso; omega)
    )
theorem c_X7_comersAt (hw : w = 1 ∨ w = 8 := by omega) (hg : inR g := by omega) : Ct P 1 yX7_comersAt cX7_comersAt 4 (some .int) [vr P w, vi g] σ (rI (atM (vC σ w) g) σ) := by
  have hw' := hw
  rcases hw with rfl | rfl <;> (
    refine Ct.of _ rfl rfl rfl (Nat.le_of_ble_eq_true rfl) (fun hB => ?_)
    refine J_iconst 1 dX7_comersAt_0 rfl ?_
    refine J_istore_n (i := 2) 2 dX7_comersAt_1 rfl rfl (by decide) ?_
    refine J_iconst 3 dX7_comersAt_2 rfl ?_
    refine J_istore_n (i := 3) 4 dX7_comersAt_3 rfl rfl (by decide) ?_
    exact l_X7_comersAt hw' hg _ 0 _ _ (Nat.zero_add _) rfl rfl
  )
set_option maxHeartbeats 4000000 in
theorem l_X7_leftAt (hw : w = 1 ∨ w = 8) (hg : 0 ≤ g ∧ g < 3) : ∀ (k i : Nat) (d r : Int), i + k = nM (vC σ w) → d = i → r = vC σ w 1 g - sumN (leftF (vC σ w) g) i → J P 2 (RX7, cX7_leftAt, 4, some .int) 9 [some (vr P w), some (vi g), some (vi r), some (vi d)] [] σ (rI (leftM (vC σ w) g) σ) := by
  intro k
  induction k with
  | zero =>
    intro i d r hi hd hr
    refine J.bd (fun hB => ?_)
    have hn := vC_n hB hw
    have hvB := vC_B hB hw
    have hpb := sumN_b (leftF_b hvB g) i
    have hlb := hvB.2.2.2.2.1 g
    rcases hw with rfl | rfl <;> (
      refine J_iload_n (i := 3) 10 dX7_leftAt_9 rfl rfl rfl ?_
      refine J_aload_n (i := 0) 11 dX7_leftAt_10 rfl rfl rfl ?_
      refine J_getI (jz := 1) (lo := 0) (hi := 6) 14 dX7_leftAt_11 rfl fX7_15 rfl rfl rfl rfl (fun b1 b2 => ?_)
      refine J_icmp_ge 42 17 dX7_leftAt_14 rfl rfl (fun c3 => ?_) (fun c3 => ?_)
      · refine J_iconst 43 dX7_leftAt_42 rfl ?_
        refine J_iload_n (i := 2) 44 dX7_leftAt_43 rfl rfl rfl ?_
        refine J_mmax 47 dX7_leftAt_44 rfl kX7_62 (by decide) (Nat.le_of_ble_eq_true rfl) ?_
        refine J_iret dX7_leftAt_47 rfl ?_
        refine ⟨?_, rfl⟩
        subst hr
        rw [Nat.add_zero] at hi
        rw [hi]
        try rfl
      · exfalso; omega
    )
  | succ k ih =>
    intro i d r hi hd hr
    refine J.bd (fun hB => ?_)
    have hn := vC_n hB hw
    have hvB := vC_B hB hw
    have hpb := sumN_b (leftF_b hvB g) i
    have hlb := hvB.2.2.2.2.1 g
    rcases hw with rfl | rfl <;> (
      refine J_iload_n (i := 3) 10 dX7_leftAt_9 rfl rfl rfl ?_
      refine J_aload_n (i := 0) 11 dX7_leftAt_10 rfl rfl rfl ?_
      refine J_getI (jz := 1) (lo := 0) (hi := 6) 14 dX7_leftAt_11 rfl fX7_15 rfl rfl rfl rfl (fun b1 b2 => ?_)
      refine J_icmp_ge 42 17 dX7_leftAt_14 rfl rfl (fun c3 => ?_) (fun c3 => ?_)
      · exfalso; omega
      · refine J_aload_n (i := 0) 18 dX7_leftAt_17 rfl rfl rfl ?_
        refine J_getR 21 dX7_leftAt_18 rfl fX7_37 rfl rfl ?_
        refine J_iload_n (i := 3) 22 dX7_leftAt_21 rfl rfl rfl ?_
        refine J_iald (N := 6) (lo := 0) (hi := 2) 23 dX7_leftAt_22 rfl rfl rfl rfl (fun b4 b5 => ?_)
        refine J_iload_n (i := 1) 24 dX7_leftAt_23 rfl rfl rfl ?_
        refine J_icmp_ne 36 27 dX7_leftAt_24 rfl rfl (fun c6 => ?_) (fun c6 => ?_)
        · refine J_iinc 39 dX7_leftAt_36 rfl (by decide) rfl ?_
          refine J_goto 9 dX7_leftAt_39 rfl ?_
          refine ih (i + 1) _ _ (by omega) (by omega) ?_
          subst hd hr
          simp only [sumN]
          unfold leftF
          split <;> rename_i hf <;> (try simp only [vC, Nat.reduceLeDiff, ↓reduceIte, Nat.reduceAdd] at hf ⊢) <;> omega
        · refine J_iload_n (i := 2) 28 dX7_leftAt_27 rfl rfl rfl ?_
          refine J_aload_n (i := 0) 29 dX7_leftAt_28 rfl rfl rfl ?_
          refine J_getR 32 dX7_leftAt_29 rfl fX7_31 rfl rfl ?_
          refine J_iload_n (i := 3) 33 dX7_leftAt_32 rfl rfl rfl ?_
          refine J_iald (N := 6) (lo := 0) (hi := 9) 34 dX7_leftAt_33 rfl rfl rfl rfl (fun b7 b8 => ?_)
          refine J_isub 35 dX7_leftAt_34 rfl ?_
          refine J_istore_n (i := 2) 36 dX7_leftAt_35 rfl rfl (by decide) ?_
          refine J_iinc 39 dX7_leftAt_36 rfl (by decide) rfl ?_
          refine J_goto 9 dX7_leftAt_39 rfl ?_
          refine ih (i + 1) _ _ (by omega) (by omega) ?_
          subst hd hr
          simp only [sumN]
          unfold leftF
          split <;> rename_i hf <;> (try simp only [vC, Nat.reduceLeDiff, ↓reduceIte, Nat.reduceAdd] at hf ⊢) <;> omega
    )
theorem c_X7_leftAt (hw : w = 1 ∨ w = 8 := by omega) (hg : 0 ≤ g ∧ g < 3 := by omega) : Ct P 2 yX7_leftAt cX7_leftAt 4 (some .int) [vr P w, vi g] σ (rI (leftM (vC σ w) g) σ) := by
  have hw' := hw
  rcases hw with rfl | rfl <;> (
    refine Ct.of _ rfl rfl rfl (Nat.le_of_ble_eq_true rfl) (fun hB => ?_)
    refine J_aload_n (i := 0) 1 dX7_leftAt_0 rfl rfl rfl ?_
    refine J_getR 4 dX7_leftAt_1 rfl fX7_24 rfl rfl ?_
    refine J_iload_n (i := 1) 5 dX7_leftAt_4 rfl rfl rfl ?_
    refine J_iald (N := 3) (lo := 0) (hi := 9) 6 dX7_leftAt_5 rfl rfl rfl rfl (fun b1 b2 => ?_)
    refine J_istore_n (i := 2) 7 dX7_leftAt_6 rfl rfl (by decide) ?_
    refine J_iconst 8 dX7_leftAt_7 rfl ?_
    refine J_istore_n (i := 3) 9 dX7_leftAt_8 rfl rfl (by decide) ?_
    exact l_X7_leftAt hw' hg _ 0 _ _ (Nat.zero_add _) rfl (by simp [sumN, vC])
  )
theorem leftM_b {v : jS} (h : wvB v) (g : Int) : 0 ≤ leftM v g ∧ leftM v g ≤ 9 := by
  have a := sumN_b (leftF_b h g) (nM v)
  have b := h.2.2.2.2.1 g
  unfold leftM
  split <;> omega
theorem starvM_b {v : jS} (h : wvB v) : 0 ≤ starvM v ∧ starvM v ≤ 63 := setN_64 _ (by have := h.2.1; unfold nM; omega)
theorem atM_b {v : jS} (h : wvB v) (g : Int) : 0 ≤ atM v g ∧ atM v g ≤ 63 := setN_64 _ (by have := h.2.1; unfold nM; omega)
theorem hungrierM_b {v : jS} (h : wvB v) (g : Int) : 0 ≤ hungrierM v g ∧ hungrierM v g ≤ 63 := setN_64 _ (by have := h.2.1; unfold nM; omega)
def crowdM (v : jS) (c : Int) : Int := if 0 < eatsM v c then setN (fun d => outM v d && decide (v 5 d = v 5 c) && decide (v 3 c < v 3 d)) (nM v) else 0
theorem c_X7_crowdedOutBy (hw : w = 1 ∨ w = 8 := by omega) (hc : 0 ≤ c ∧ c < 6 := by omega) : Ct P 5 yX7_crowdedOutBy cX7_crowdedOutBy 2 (some .int) [vr P w, vi c] σ (rI (crowdM (vC σ w) c) σ) := by
  refine Ct.bd (fun hB => ?_)
  have hvB := vC_B hB hw
  have heb := eatsM_b hvB c
  have h1 := starvM_b hvB
  have h2 := atM_b hvB (vC σ w 5 c)
  have h3 := hungrierM_b hvB c
  have e1 : iand (starvM (vC σ w)) (atM (vC σ w) (vC σ w 5 c)) = setN (fun d => outM (vC σ w) d && decide (vC σ w 5 d = vC σ w 5 c)) (nM (vC σ w)) := setN_and _ _ _
  have h4 := setN_64 (fun d => outM (vC σ w) d && decide (vC σ w 5 d = vC σ w 5 c)) (n := nM (vC σ w)) (vC_n hB hw).1
  rw [← e1] at h4
  rcases hw with rfl | rfl <;> (
    have h2' := h2
    have h4' := h4
    simp only [show ∀ q : Nat → Int → Int, vC q 1 5 c = q 6 c from fun _ => rfl, show ∀ q : Nat → Int → Int, vC q 8 5 c = q 13 c from fun _ => rfl] at h2' h4'
    refine Ct.of _ rfl rfl rfl (Nat.le_of_ble_eq_true rfl) (fun hB => ?_)
    refine J_aload_n (i := 0) 1 dX7_crowdedOutBy_0 rfl rfl rfl ?_
    refine J_iload_n (i := 1) 2 dX7_crowdedOutBy_1 rfl rfl rfl ?_
    refine J_callVi 5 dX7_crowdedOutBy_2 rfl kX7_65 mX7_eats rfl rfl rfl (c_X7_eats) (by decide) rfl rfl (Nat.le_of_ble_eq_true rfl) (fun z2 s3 h1 => ?_)
    obtain ⟨rfl, rfl⟩ := h1
    refine J_if_le 32 8 dX7_crowdedOutBy_5 rfl rfl (fun c4 => ?_) (fun c4 => ?_)
    · refine J_iconst 33 dX7_crowdedOutBy_32 rfl ?_
      refine J_iret dX7_crowdedOutBy_33 rfl ?_
      refine ⟨?_, rfl⟩
      unfold crowdM
      first | (rw [if_neg (by omega)]; done) | (rw [if_pos (by omega)]; exact (setN_and _ _ _).symm.trans (congrArg (fun q => iand q _) e1.symm))
    · refine J_aload_n (i := 0) 9 dX7_crowdedOutBy_8 rfl rfl rfl ?_
      refine J_callVi 12 dX7_crowdedOutBy_9 rfl kX7_68 mX7_starving rfl rfl rfl (c_X7_starving) (by decide) rfl rfl (Nat.le_of_ble_eq_true rfl) (fun z6 s7 h5 => ?_)
      obtain ⟨rfl, rfl⟩ := h5
      refine J_aload_n (i := 0) 13 dX7_crowdedOutBy_12 rfl rfl rfl ?_
      refine J_aload_n (i := 0) 14 dX7_crowdedOutBy_13 rfl rfl rfl ?_
      refine J_getR 17 dX7_crowdedOutBy_14 rfl fX7_37 rfl rfl ?_
      refine J_iload_n (i := 1) 18 dX7_crowdedOutBy_17 rfl rfl rfl ?_
      refine J_iald (N := 6) (lo := 0) (hi := 2) 19 dX7_crowdedOutBy_18 rfl rfl rfl rfl (fun b8 b9 => ?_)
      refine J_callVi 22 dX7_crowdedOutBy_19 rfl kX7_72 mX7_comersAt rfl rfl rfl (c_X7_comersAt) (by decide) rfl rfl (Nat.le_of_ble_eq_true rfl) (fun z11 s12 h10 => ?_)
      obtain ⟨rfl, rfl⟩ := h10
      refine J_iand 23 dX7_crowdedOutBy_22 rfl ?_
      refine J_aload_n (i := 0) 24 dX7_crowdedOutBy_23 rfl rfl rfl ?_
      refine J_iload_n (i := 1) 25 dX7_crowdedOutBy_24 rfl rfl rfl ?_
      refine J_callVi 28 dX7_crowdedOutBy_25 rfl kX7_75 mX7_hungrierThan rfl rfl rfl (c_X7_hungrierThan) (by decide) rfl rfl (Nat.le_of_ble_eq_true rfl) (fun z14 s15 h13 => ?_)
      obtain ⟨rfl, rfl⟩ := h13
      refine J_iand 29 dX7_crowdedOutBy_28 rfl ?_
      refine J_goto 33 dX7_crowdedOutBy_29 rfl ?_
      refine J_iret dX7_crowdedOutBy_33 rfl ?_
      refine ⟨?_, rfl⟩
      unfold crowdM
      first | (rw [if_neg (by omega)]; done) | (rw [if_pos (by omega)]; exact (setN_and _ _ _).symm.trans (congrArg (fun q => iand q _) e1.symm))
  )
set_option maxHeartbeats 4000000 in
theorem l_X7_allLeft (hw : w = 1 ∨ w = 8) : ∀ (k i : Nat) (d r : Int), i + k = gM (vC σ w) → d = i → r = sumN (leftM (vC σ w)) i → J P 3 (RX7, cX7_allLeft, 3, some .int) 4 [some (vr P w), some (vi r), some (vi d)] [] σ (rI (sumN (leftM (vC σ w)) (gM (vC σ w))) σ) := by
  intro k
  induction k with
  | zero =>
    intro i d r hi hd hr
    refine J.bd (fun hB => ?_)
    have hn := vC_n hB hw
    have hvB := vC_B hB hw
    have hgn := vC_g hB hw
    have hpb := sumN_b (leftM_b hvB) i
    have hld := leftM_b hvB d
    rcases hw with rfl | rfl <;> (
      refine J_iload_n (i := 2) 5 dX7_allLeft_4 rfl rfl rfl ?_
      refine J_aload_n (i := 0) 6 dX7_allLeft_5 rfl rfl rfl ?_
      refine J_getI (jz := 0) (lo := 0) (hi := 3) 9 dX7_allLeft_6 rfl fX7_9 rfl rfl rfl rfl (fun b1 b2 => ?_)
      refine J_icmp_ge 26 12 dX7_allLeft_9 rfl rfl (fun c3 => ?_) (fun c3 => ?_)
      · refine J_iload_n (i := 1) 27 dX7_allLeft_26 rfl rfl rfl ?_
        refine J_iret dX7_allLeft_27 rfl ?_
        refine ⟨?_, rfl⟩
        subst hr
        rw [Nat.add_zero] at hi
        rw [hi]
        try rfl
      · exfalso; omega
    )
  | succ k ih =>
    intro i d r hi hd hr
    refine J.bd (fun hB => ?_)
    have hn := vC_n hB hw
    have hvB := vC_B hB hw
    have hgn := vC_g hB hw
    have hpb := sumN_b (leftM_b hvB) i
    have hld := leftM_b hvB d
    rcases hw with rfl | rfl <;> (
      refine J_iload_n (i := 2) 5 dX7_allLeft_4 rfl rfl rfl ?_
      refine J_aload_n (i := 0) 6 dX7_allLeft_5 rfl rfl rfl ?_
      refine J_getI (jz := 0) (lo := 0) (hi := 3) 9 dX7_allLeft_6 rfl fX7_9 rfl rfl rfl rfl (fun b1 b2 => ?_)
      refine J_icmp_ge 26 12 dX7_allLeft_9 rfl rfl (fun c3 => ?_) (fun c3 => ?_)
      · exfalso; omega
      · refine J_iload_n (i := 1) 13 dX7_allLeft_12 rfl rfl rfl ?_
        refine J_aload_n (i := 0) 14 dX7_allLeft_13 rfl rfl rfl ?_
        refine J_iload_n (i := 2) 15 dX7_allLeft_14 rfl rfl rfl ?_
        refine J_callVi 18 dX7_allLeft_15 rfl kX7_78 mX7_leftAt rfl rfl rfl (c_X7_leftAt) (by decide) rfl rfl (Nat.le_of_ble_eq_true rfl) (fun z5 s6 h4 => ?_)
        obtain ⟨rfl, rfl⟩ := h4
        refine J_iadd 19 dX7_allLeft_18 rfl ?_
        refine J_istore_n (i := 1) 20 dX7_allLeft_19 rfl rfl (by decide) ?_
        refine J_iinc 23 dX7_allLeft_20 rfl (by decide) rfl ?_
        refine J_goto 4 dX7_allLeft_23 rfl ?_
        refine ih (i + 1) _ _ (by omega) (by omega) ?_
        subst hd hr
        simp only [sumN, vC, Nat.reduceLeDiff, ↓reduceIte, Nat.reduceAdd]
    )
theorem c_X7_allLeft (hw : w = 1 ∨ w = 8 := by omega) : Ct P 3 yX7_allLeft cX7_allLeft 3 (some .int) [vr P w] σ (rI (sumN (leftM (vC σ w)) (gM (vC σ w))) σ) := by
  have hw' := hw
  rcases hw with rfl | rfl <;> (
    refine Ct.of _ rfl rfl rfl (Nat.le_of_ble_eq_true rfl) (fun hB => ?_)
    refine J_iconst 1 dX7_allLeft_0 rfl ?_
    refine J_istore_n (i := 1) 2 dX7_allLeft_1 rfl rfl (by decide) ?_
    refine J_iconst 3 dX7_allLeft_2 rfl ?_
    refine J_istore_n (i := 2) 4 dX7_allLeft_3 rfl rfl (by decide) ?_
    exact l_X7_allLeft hw'  _ 0 _ _ (Nat.zero_add _) rfl rfl
  )
set_option maxHeartbeats 4000000 in
theorem l_X7_allLoaves (hw : w = 1 ∨ w = 8) : ∀ (k i : Nat) (d r : Int), i + k = gM (vC σ w) → d = i → r = sumN (vC σ w 1) i → J P 1 (RX7, cX7_allLoaves, 3, some .int) 4 [some (vr P w), some (vi r), some (vi d)] [] σ (rI (sumN (vC σ w 1) (gM (vC σ w))) σ) := by
  intro k
  induction k with
  | zero =>
    intro i d r hi hd hr
    refine J.bd (fun hB => ?_)
    have hn := vC_n hB hw
    have hvB := vC_B hB hw
    have hgn := vC_g hB hw
    have hpb := sumN_b hvB.2.2.2.2.1 i
    rcases hw with rfl | rfl <;> (
      refine J_iload_n (i := 2) 5 dX7_allLoaves_4 rfl rfl rfl ?_
      refine J_aload_n (i := 0) 6 dX7_allLoaves_5 rfl rfl rfl ?_
      refine J_getI (jz := 0) (lo := 0) (hi := 3) 9 dX7_allLoaves_6 rfl fX7_9 rfl rfl rfl rfl (fun b1 b2 => ?_)
      refine J_icmp_ge 27 12 dX7_allLoaves_9 rfl rfl (fun c3 => ?_) (fun c3 => ?_)
      · refine J_iload_n (i := 1) 28 dX7_allLoaves_27 rfl rfl rfl ?_
        refine J_iret dX7_allLoaves_28 rfl ?_
        refine ⟨?_, rfl⟩
        subst hr
        rw [Nat.add_zero] at hi
        rw [hi]
        try rfl
      · exfalso; omega
    )
  | succ k ih =>
    intro i d r hi hd hr
    refine J.bd (fun hB => ?_)
    have hn := vC_n hB hw
    have hvB := vC_B hB hw
    have hgn := vC_g hB hw
    have hpb := sumN_b hvB.2.2.2.2.1 i
    rcases hw with rfl | rfl <;> (
      refine J_iload_n (i := 2) 5 dX7_allLoaves_4 rfl rfl rfl ?_
      refine J_aload_n (i := 0) 6 dX7_allLoaves_5 rfl rfl rfl ?_
      refine J_getI (jz := 0) (lo := 0) (hi := 3) 9 dX7_allLoaves_6 rfl fX7_9 rfl rfl rfl rfl (fun b1 b2 => ?_)
      refine J_icmp_ge 27 12 dX7_allLoaves_9 rfl rfl (fun c3 => ?_) (fun c3 => ?_)
      · exfalso; omega
      · refine J_iload_n (i := 1) 13 dX7_allLoaves_12 rfl rfl rfl ?_
        refine J_aload_n (i := 0) 14 dX7_allLoaves_13 rfl rfl rfl ?_
        refine J_getR 17 dX7_allLoaves_14 rfl fX7_24 rfl rfl ?_
        refine J_iload_n (i := 2) 18 dX7_allLoaves_17 rfl rfl rfl ?_
        refine J_iald (N := 3) (lo := 0) (hi := 9) 19 dX7_allLoaves_18 rfl rfl rfl rfl (fun b4 b5 => ?_)
        refine J_iadd 20 dX7_allLoaves_19 rfl ?_
        refine J_istore_n (i := 1) 21 dX7_allLoaves_20 rfl rfl (by decide) ?_
        refine J_iinc 24 dX7_allLoaves_21 rfl (by decide) rfl ?_
        refine J_goto 4 dX7_allLoaves_24 rfl ?_
        refine ih (i + 1) _ _ (by omega) (by omega) ?_
        subst hd hr
        simp only [sumN, vC, Nat.reduceLeDiff, ↓reduceIte, Nat.reduceAdd]
    )
theorem c_X7_allLoaves (hw : w = 1 ∨ w = 8 := by omega) : Ct P 1 yX7_allLoaves cX7_allLoaves 3 (some .int) [vr P w] σ (rI (sumN (vC σ w 1) (gM (vC σ w))) σ) := by
  have hw' := hw
  rcases hw with rfl | rfl <;> (
    refine Ct.of _ rfl rfl rfl (Nat.le_of_ble_eq_true rfl) (fun hB => ?_)
    refine J_iconst 1 dX7_allLoaves_0 rfl ?_
    refine J_istore_n (i := 1) 2 dX7_allLoaves_1 rfl rfl (by decide) ?_
    refine J_iconst 3 dX7_allLoaves_2 rfl ?_
    refine J_istore_n (i := 2) 4 dX7_allLoaves_3 rfl rfl (by decide) ?_
    exact l_X7_allLoaves hw'  _ 0 _ _ (Nat.zero_add _) rfl rfl
  )
set_option maxHeartbeats 4000000 in
theorem l_X7_allLooks (hw : w = 1 ∨ w = 8) : ∀ (k i : Nat) (d r : Int), i + k = nM (vC σ w) → d = i → r = sumN (lookM (vC σ w)) i → J P 2 (RX7, cX7_allLooks, 3, some .int) 4 [some (vr P w), some (vi r), some (vi d)] [] σ (rI (sumN (lookM (vC σ w)) (nM (vC σ w))) σ) := by
  intro k
  induction k with
  | zero =>
    intro i d r hi hd hr
    refine J.bd (fun hB => ?_)
    have hn := vC_n hB hw
    have hvB := vC_B hB hw
    have hpb := sumN_b (lookM_b hvB) i
    have hld := lookM_b hvB d
    rcases hw with rfl | rfl <;> (
      refine J_iload_n (i := 2) 5 dX7_allLooks_4 rfl rfl rfl ?_
      refine J_aload_n (i := 0) 6 dX7_allLooks_5 rfl rfl rfl ?_
      refine J_getI (jz := 1) (lo := 0) (hi := 6) 9 dX7_allLooks_6 rfl fX7_15 rfl rfl rfl rfl (fun b1 b2 => ?_)
      refine J_icmp_ge 26 12 dX7_allLooks_9 rfl rfl (fun c3 => ?_) (fun c3 => ?_)
      · refine J_iload_n (i := 1) 27 dX7_allLooks_26 rfl rfl rfl ?_
        refine J_iret dX7_allLooks_27 rfl ?_
        refine ⟨?_, rfl⟩
        subst hr
        rw [Nat.add_zero] at hi
        rw [hi]
        try rfl
      · exfalso; omega
    )
  | succ k ih =>
    intro i d r hi hd hr
    refine J.bd (fun hB => ?_)
    have hn := vC_n hB hw
    have hvB := vC_B hB hw
    have hpb := sumN_b (lookM_b hvB) i
    have hld := lookM_b hvB d
    rcases hw with rfl | rfl <;> (
      refine J_iload_n (i := 2) 5 dX7_allLooks_4 rfl rfl rfl ?_
      refine J_aload_n (i := 0) 6 dX7_allLooks_5 rfl rfl rfl ?_
      refine J_getI (jz := 1) (lo := 0) (hi := 6) 9 dX7_allLooks_6 rfl fX7_15 rfl rfl rfl rfl (fun b1 b2 => ?_)
      refine J_icmp_ge 26 12 dX7_allLooks_9 rfl rfl (fun c3 => ?_) (fun c3 => ?_)
      · exfalso; omega
      · refine J_iload_n (i := 1) 13 dX7_allLooks_12 rfl rfl rfl ?_
        refine J_aload_n (i := 0) 14 dX7_allLooks_13 rfl rfl rfl ?_
        refine J_iload_n (i := 2) 15 dX7_allLooks_14 rfl rfl rfl ?_
        refine J_callVi 18 dX7_allLooks_15 rfl kX7_49 mX7_look rfl rfl rfl (c_X7_look) (by decide) rfl rfl (Nat.le_of_ble_eq_true rfl) (fun z5 s6 h4 => ?_)
        obtain ⟨rfl, rfl⟩ := h4
        refine J_iadd 19 dX7_allLooks_18 rfl ?_
        refine J_istore_n (i := 1) 20 dX7_allLooks_19 rfl rfl (by decide) ?_
        refine J_iinc 23 dX7_allLooks_20 rfl (by decide) rfl ?_
        refine J_goto 4 dX7_allLooks_23 rfl ?_
        refine ih (i + 1) _ _ (by omega) (by omega) ?_
        subst hd hr
        simp only [sumN, vC, Nat.reduceLeDiff, ↓reduceIte, Nat.reduceAdd]
    )
theorem c_X7_allLooks (hw : w = 1 ∨ w = 8 := by omega) : Ct P 2 yX7_allLooks cX7_allLooks 3 (some .int) [vr P w] σ (rI (sumN (lookM (vC σ w)) (nM (vC σ w))) σ) := by
  have hw' := hw
  rcases hw with rfl | rfl <;> (
    refine Ct.of _ rfl rfl rfl (Nat.le_of_ble_eq_true rfl) (fun hB => ?_)
    refine J_iconst 1 dX7_allLooks_0 rfl ?_
    refine J_istore_n (i := 1) 2 dX7_allLooks_1 rfl rfl (by decide) ?_
    refine J_iconst 3 dX7_allLooks_2 rfl ?_
    refine J_istore_n (i := 2) 4 dX7_allLooks_3 rfl rfl (by decide) ?_
    exact l_X7_allLooks hw'  _ 0 _ _ (Nat.zero_add _) rfl rfl
  )
set_option maxHeartbeats 4000000 in
theorem l_X7_eaters (hw : w = 1 ∨ w = 8) : ∀ (k i : Nat) (d r : Int), i + k = nM (vC σ w) → d = i → r = sumN (eaterF (vC σ w)) i → J P 4 (RX7, cX7_eaters, 3, some .int) 4 [some (vr P w), some (vi r), some (vi d)] [] σ (rI (sumN (eaterF (vC σ w)) (nM (vC σ w))) σ) := by
  intro k
  induction k with
  | zero =>
    intro i d r hi hd hr
    refine J.bd (fun hB => ?_)
    have hn := vC_n hB hw
    have hvB := vC_B hB hw
    have hld := eatsM_b hvB d
    rcases hw with rfl | rfl <;> (
      refine J_iload_n (i := 2) 5 dX7_eaters_4 rfl rfl rfl ?_
      refine J_aload_n (i := 0) 6 dX7_eaters_5 rfl rfl rfl ?_
      refine J_getI (jz := 1) (lo := 0) (hi := 6) 9 dX7_eaters_6 rfl fX7_15 rfl rfl rfl rfl (fun b1 b2 => ?_)
      refine J_icmp_ge 29 12 dX7_eaters_9 rfl rfl (fun c3 => ?_) (fun c3 => ?_)
      · refine J_iload_n (i := 1) 30 dX7_eaters_29 rfl rfl rfl ?_
        refine J_iret dX7_eaters_30 rfl ?_
        refine ⟨?_, rfl⟩
        subst hr
        rw [Nat.add_zero] at hi
        rw [hi]
        try rfl
      · exfalso; omega
    )
  | succ k ih =>
    intro i d r hi hd hr
    refine J.bd (fun hB => ?_)
    have hn := vC_n hB hw
    have hvB := vC_B hB hw
    have hld := eatsM_b hvB d
    rcases hw with rfl | rfl <;> (
      refine J_iload_n (i := 2) 5 dX7_eaters_4 rfl rfl rfl ?_
      refine J_aload_n (i := 0) 6 dX7_eaters_5 rfl rfl rfl ?_
      refine J_getI (jz := 1) (lo := 0) (hi := 6) 9 dX7_eaters_6 rfl fX7_15 rfl rfl rfl rfl (fun b1 b2 => ?_)
      refine J_icmp_ge 29 12 dX7_eaters_9 rfl rfl (fun c3 => ?_) (fun c3 => ?_)
      · exfalso; omega
      · refine J_aload_n (i := 0) 13 dX7_eaters_12 rfl rfl rfl ?_
        refine J_iload_n (i := 2) 14 dX7_eaters_13 rfl rfl rfl ?_
        refine J_callVi 17 dX7_eaters_14 rfl kX7_65 mX7_eats rfl rfl rfl (c_X7_eats) (by decide) rfl rfl (Nat.le_of_ble_eq_true rfl) (fun z5 s6 h4 => ?_)
        obtain ⟨rfl, rfl⟩ := h4
        refine J_if_le 23 20 dX7_eaters_17 rfl rfl (fun c7 => ?_) (fun c7 => ?_)
        · refine J_iinc 26 dX7_eaters_23 rfl (by decide) rfl ?_
          refine J_goto 4 dX7_eaters_26 rfl ?_
          refine ih (i + 1) _ _ (by omega) (by omega) ?_
          subst hd hr
          simp only [sumN]
          unfold eaterF
          split <;> rename_i hf <;> (try simp only [vC, Nat.reduceLeDiff, ↓reduceIte, Nat.reduceAdd] at hf ⊢) <;> omega
        · refine J_iinc 23 dX7_eaters_20 rfl (by decide) rfl ?_
          refine J_iinc 26 dX7_eaters_23 rfl (by decide) rfl ?_
          refine J_goto 4 dX7_eaters_26 rfl ?_
          refine ih (i + 1) _ _ (by omega) (by omega) ?_
          subst hd hr
          simp only [sumN]
          unfold eaterF
          split <;> rename_i hf <;> (try simp only [vC, Nat.reduceLeDiff, ↓reduceIte, Nat.reduceAdd] at hf ⊢) <;> omega
    )
theorem c_X7_eaters (hw : w = 1 ∨ w = 8 := by omega) : Ct P 4 yX7_eaters cX7_eaters 3 (some .int) [vr P w] σ (rI (sumN (eaterF (vC σ w)) (nM (vC σ w))) σ) := by
  have hw' := hw
  rcases hw with rfl | rfl <;> (
    refine Ct.of _ rfl rfl rfl (Nat.le_of_ble_eq_true rfl) (fun hB => ?_)
    refine J_iconst 1 dX7_eaters_0 rfl ?_
    refine J_istore_n (i := 1) 2 dX7_eaters_1 rfl rfl (by decide) ?_
    refine J_iconst 3 dX7_eaters_2 rfl ?_
    refine J_istore_n (i := 2) 4 dX7_eaters_3 rfl rfl (by decide) ?_
    exact l_X7_eaters hw'  _ 0 _ _ (Nat.zero_add _) rfl rfl
  )
set_option maxHeartbeats 4000000 in
theorem l_X7_hungryHeldFed (hw : w = 1 ∨ w = 8) (hx : inR x) : ∀ (k i : Nat) (d r : Int), i + k = nM (vC σ w) → d = i → r = sumN (heldF (vC σ w) x) i → J P 2 (RX7, cX7_hungryHeldFed, 4, some .int) 4 [some (vr P w), some (vi x), some (vi r), some (vi d)] [] σ (rI (sumN (heldF (vC σ w) x) (nM (vC σ w))) σ) := by
  intro k
  induction k with
  | zero =>
    intro i d r hi hd hr
    refine J.bd (fun hB => ?_)
    have hn := vC_n hB hw
    have hvB := vC_B hB hw
    have hld := lookM_b hvB d
    rcases hw with rfl | rfl <;> (
      refine J_iload_n (i := 3) 5 dX7_hungryHeldFed_4 rfl rfl rfl ?_
      refine J_aload_n (i := 0) 6 dX7_hungryHeldFed_5 rfl rfl rfl ?_
      refine J_getI (jz := 1) (lo := 0) (hi := 6) 9 dX7_hungryHeldFed_6 rfl fX7_15 rfl rfl rfl rfl (fun b1 b2 => ?_)
      refine J_icmp_ge 39 12 dX7_hungryHeldFed_9 rfl rfl (fun c3 => ?_) (fun c3 => ?_)
      · refine J_iload_n (i := 2) 40 dX7_hungryHeldFed_39 rfl rfl rfl ?_
        refine J_iret dX7_hungryHeldFed_40 rfl ?_
        refine ⟨?_, rfl⟩
        subst hr
        rw [Nat.add_zero] at hi
        rw [hi]
        try rfl
      · exfalso; omega
    )
  | succ k ih =>
    intro i d r hi hd hr
    refine J.bd (fun hB => ?_)
    have hn := vC_n hB hw
    have hvB := vC_B hB hw
    have hld := lookM_b hvB d
    rcases hw with rfl | rfl <;> (
      refine J_iload_n (i := 3) 5 dX7_hungryHeldFed_4 rfl rfl rfl ?_
      refine J_aload_n (i := 0) 6 dX7_hungryHeldFed_5 rfl rfl rfl ?_
      refine J_getI (jz := 1) (lo := 0) (hi := 6) 9 dX7_hungryHeldFed_6 rfl fX7_15 rfl rfl rfl rfl (fun b1 b2 => ?_)
      refine J_icmp_ge 39 12 dX7_hungryHeldFed_9 rfl rfl (fun c3 => ?_) (fun c3 => ?_)
      · exfalso; omega
      · refine J_aload_n (i := 0) 13 dX7_hungryHeldFed_12 rfl rfl rfl ?_
        refine J_getR 16 dX7_hungryHeldFed_13 rfl fX7_31 rfl rfl ?_
        refine J_iload_n (i := 3) 17 dX7_hungryHeldFed_16 rfl rfl rfl ?_
        refine J_iald (N := 6) (lo := 0) (hi := 9) 18 dX7_hungryHeldFed_17 rfl rfl rfl rfl (fun b4 b5 => ?_)
        refine J_if_le 33 21 dX7_hungryHeldFed_18 rfl rfl (fun c6 => ?_) (fun c6 => ?_)
        · refine J_iinc 36 dX7_hungryHeldFed_33 rfl (by decide) rfl ?_
          refine J_goto 4 dX7_hungryHeldFed_36 rfl ?_
          refine ih (i + 1) _ _ (by omega) (by omega) ?_
          subst hd hr
          simp only [sumN]
          unfold heldF
          split <;> rename_i hf <;> (try simp only [vC, Nat.reduceLeDiff, ↓reduceIte, Nat.reduceAdd] at hf ⊢) <;> omega
        · refine J_aload_n (i := 0) 22 dX7_hungryHeldFed_21 rfl rfl rfl ?_
          refine J_iload_n (i := 3) 23 dX7_hungryHeldFed_22 rfl rfl rfl ?_
          refine J_callVi 26 dX7_hungryHeldFed_23 rfl kX7_49 mX7_look rfl rfl rfl (c_X7_look) (by decide) rfl rfl (Nat.le_of_ble_eq_true rfl) (fun z8 s9 h7 => ?_)
          obtain ⟨rfl, rfl⟩ := h7
          refine J_iload_n (i := 1) 27 dX7_hungryHeldFed_26 rfl rfl rfl ?_
          refine J_icmp_lt 33 30 dX7_hungryHeldFed_27 rfl rfl (fun c10 => ?_) (fun c10 => ?_)
          · refine J_iinc 36 dX7_hungryHeldFed_33 rfl (by decide) rfl ?_
            refine J_goto 4 dX7_hungryHeldFed_36 rfl ?_
            refine ih (i + 1) _ _ (by omega) (by omega) ?_
            subst hd hr
            simp only [sumN]
            unfold heldF
            split <;> rename_i hf <;> (try simp only [vC, Nat.reduceLeDiff, ↓reduceIte, Nat.reduceAdd] at hf ⊢) <;> omega
          · refine J_iinc 33 dX7_hungryHeldFed_30 rfl (by decide) rfl ?_
            refine J_iinc 36 dX7_hungryHeldFed_33 rfl (by decide) rfl ?_
            refine J_goto 4 dX7_hungryHeldFed_36 rfl ?_
            refine ih (i + 1) _ _ (by omega) (by omega) ?_
            subst hd hr
            simp only [sumN]
            unfold heldF
            split <;> rename_i hf <;> (try simp only [vC, Nat.reduceLeDiff, ↓reduceIte, Nat.reduceAdd] at hf ⊢) <;> omega
    )
theorem c_X7_hungryHeldFed (hw : w = 1 ∨ w = 8 := by omega) (hx : inR x := by omega) : Ct P 2 yX7_hungryHeldFed cX7_hungryHeldFed 4 (some .int) [vr P w, vi x] σ (rI (sumN (heldF (vC σ w) x) (nM (vC σ w))) σ) := by
  have hw' := hw
  rcases hw with rfl | rfl <;> (
    refine Ct.of _ rfl rfl rfl (Nat.le_of_ble_eq_true rfl) (fun hB => ?_)
    refine J_iconst 1 dX7_hungryHeldFed_0 rfl ?_
    refine J_istore_n (i := 2) 2 dX7_hungryHeldFed_1 rfl rfl (by decide) ?_
    refine J_iconst 3 dX7_hungryHeldFed_2 rfl ?_
    refine J_istore_n (i := 3) 4 dX7_hungryHeldFed_3 rfl rfl (by decide) ?_
    exact l_X7_hungryHeldFed hw' hx _ 0 _ _ (Nat.zero_add _) rfl rfl
  )
set_option maxHeartbeats 4000000 in
theorem l_X7_fedNotHeldSo (hw : w = 1 ∨ w = 8) (hx : inR x) : ∀ (k i : Nat) (d r : Int), i + k = nM (vC σ w) → d = i → r = sumN (unheldF (vC σ w) x) i → J P 2 (RX7, cX7_fedNotHeldSo, 4, some .int) 4 [some (vr P w), some (vi x), some (vi r), some (vi d)] [] σ (rI (sumN (unheldF (vC σ w) x) (nM (vC σ w))) σ) := by
  intro k
  induction k with
  | zero =>
    intro i d r hi hd hr
    refine J.bd (fun hB => ?_)
    have hn := vC_n hB hw
    have hvB := vC_B hB hw
    have hld := lookM_b hvB d
    rcases hw with rfl | rfl <;> (
      refine J_iload_n (i := 3) 5 dX7_fedNotHeldSo_4 rfl rfl rfl ?_
      refine J_aload_n (i := 0) 6 dX7_fedNotHeldSo_5 rfl rfl rfl ?_
      refine J_getI (jz := 1) (lo := 0) (hi := 6) 9 dX7_fedNotHeldSo_6 rfl fX7_15 rfl rfl rfl rfl (fun b1 b2 => ?_)
      refine J_icmp_ge 39 12 dX7_fedNotHeldSo_9 rfl rfl (fun c3 => ?_) (fun c3 => ?_)
      · refine J_iload_n (i := 2) 40 dX7_fedNotHeldSo_39 rfl rfl rfl ?_
        refine J_iret dX7_fedNotHeldSo_40 rfl ?_
        refine ⟨?_, rfl⟩
        subst hr
        rw [Nat.add_zero] at hi
        rw [hi]
        try rfl
      · exfalso; omega
    )
  | succ k ih =>
    intro i d r hi hd hr
    refine J.bd (fun hB => ?_)
    have hn := vC_n hB hw
    have hvB := vC_B hB hw
    have hld := lookM_b hvB d
    rcases hw with rfl | rfl <;> (
      refine J_iload_n (i := 3) 5 dX7_fedNotHeldSo_4 rfl rfl rfl ?_
      refine J_aload_n (i := 0) 6 dX7_fedNotHeldSo_5 rfl rfl rfl ?_
      refine J_getI (jz := 1) (lo := 0) (hi := 6) 9 dX7_fedNotHeldSo_6 rfl fX7_15 rfl rfl rfl rfl (fun b1 b2 => ?_)
      refine J_icmp_ge 39 12 dX7_fedNotHeldSo_9 rfl rfl (fun c3 => ?_) (fun c3 => ?_)
      · exfalso; omega
      · refine J_aload_n (i := 0) 13 dX7_fedNotHeldSo_12 rfl rfl rfl ?_
        refine J_getR 16 dX7_fedNotHeldSo_13 rfl fX7_31 rfl rfl ?_
        refine J_iload_n (i := 3) 17 dX7_fedNotHeldSo_16 rfl rfl rfl ?_
        refine J_iald (N := 6) (lo := 0) (hi := 9) 18 dX7_fedNotHeldSo_17 rfl rfl rfl rfl (fun b4 b5 => ?_)
        refine J_if_ne 33 21 dX7_fedNotHeldSo_18 rfl rfl (fun c6 => ?_) (fun c6 => ?_)
        · refine J_iinc 36 dX7_fedNotHeldSo_33 rfl (by decide) rfl ?_
          refine J_goto 4 dX7_fedNotHeldSo_36 rfl ?_
          refine ih (i + 1) _ _ (by omega) (by omega) ?_
          subst hd hr
          simp only [sumN]
          unfold unheldF
          split <;> rename_i hf <;> (try simp only [vC, Nat.reduceLeDiff, ↓reduceIte, Nat.reduceAdd] at hf ⊢) <;> omega
        · refine J_aload_n (i := 0) 22 dX7_fedNotHeldSo_21 rfl rfl rfl ?_
          refine J_iload_n (i := 3) 23 dX7_fedNotHeldSo_22 rfl rfl rfl ?_
          refine J_callVi 26 dX7_fedNotHeldSo_23 rfl kX7_49 mX7_look rfl rfl rfl (c_X7_look) (by decide) rfl rfl (Nat.le_of_ble_eq_true rfl) (fun z8 s9 h7 => ?_)
          obtain ⟨rfl, rfl⟩ := h7
          refine J_iload_n (i := 1) 27 dX7_fedNotHeldSo_26 rfl rfl rfl ?_
          refine J_icmp_ge 33 30 dX7_fedNotHeldSo_27 rfl rfl (fun c10 => ?_) (fun c10 => ?_)
          · refine J_iinc 36 dX7_fedNotHeldSo_33 rfl (by decide) rfl ?_
            refine J_goto 4 dX7_fedNotHeldSo_36 rfl ?_
            refine ih (i + 1) _ _ (by omega) (by omega) ?_
            subst hd hr
            simp only [sumN]
            unfold unheldF
            split <;> rename_i hf <;> (try simp only [vC, Nat.reduceLeDiff, ↓reduceIte, Nat.reduceAdd] at hf ⊢) <;> omega
          · refine J_iinc 33 dX7_fedNotHeldSo_30 rfl (by decide) rfl ?_
            refine J_iinc 36 dX7_fedNotHeldSo_33 rfl (by decide) rfl ?_
            refine J_goto 4 dX7_fedNotHeldSo_36 rfl ?_
            refine ih (i + 1) _ _ (by omega) (by omega) ?_
            subst hd hr
            simp only [sumN]
            unfold unheldF
            split <;> rename_i hf <;> (try simp only [vC, Nat.reduceLeDiff, ↓reduceIte, Nat.reduceAdd] at hf ⊢) <;> omega
    )
theorem c_X7_fedNotHeldSo (hw : w = 1 ∨ w = 8 := by omega) (hx : inR x := by omega) : Ct P 2 yX7_fedNotHeldSo cX7_fedNotHeldSo 4 (some .int) [vr P w, vi x] σ (rI (sumN (unheldF (vC σ w) x) (nM (vC σ w))) σ) := by
  have hw' := hw
  rcases hw with rfl | rfl <;> (
    refine Ct.of _ rfl rfl rfl (Nat.le_of_ble_eq_true rfl) (fun hB => ?_)
    refine J_iconst 1 dX7_fedNotHeldSo_0 rfl ?_
    refine J_istore_n (i := 2) 2 dX7_fedNotHeldSo_1 rfl rfl (by decide) ?_
    refine J_iconst 3 dX7_fedNotHeldSo_2 rfl ?_
    refine J_istore_n (i := 3) 4 dX7_fedNotHeldSo_3 rfl rfl (by decide) ?_
    exact l_X7_fedNotHeldSo hw' hx _ 0 _ _ (Nat.zero_add _) rfl rfl
  )
def misM (v : jS) (t : Int) : Int := sumN (heldF v t) (nM v) + sumN (unheldF v t) (nM v)
theorem c_X7_misheld (hw : w = 1 ∨ w = 8 := by omega) (hx : inR x := by omega) : Ct P 3 yX7_misheld cX7_misheld 2 (some .int) [vr P w, vi x] σ (rI (misM (vC σ w) x) σ) := by
  rcases hw with rfl | rfl <;> (
    refine Ct.of _ rfl rfl rfl (Nat.le_of_ble_eq_true rfl) (fun hB => ?_)
    refine J_aload_n (i := 0) 1 dX7_misheld_0 rfl rfl rfl ?_
    refine J_iload_n (i := 1) 2 dX7_misheld_1 rfl rfl rfl ?_
    refine J_callVi 5 dX7_misheld_2 rfl kX7_81 mX7_hungryHeldFed rfl rfl rfl (c_X7_hungryHeldFed) (by decide) rfl rfl (Nat.le_of_ble_eq_true rfl) (fun z2 s3 h1 => ?_)
    obtain ⟨rfl, rfl⟩ := h1
    refine J_aload_n (i := 0) 6 dX7_misheld_5 rfl rfl rfl ?_
    refine J_iload_n (i := 1) 7 dX7_misheld_6 rfl rfl rfl ?_
    refine J_callVi 10 dX7_misheld_7 rfl kX7_84 mX7_fedNotHeldSo rfl rfl rfl (c_X7_fedNotHeldSo) (by decide) rfl rfl (Nat.le_of_ble_eq_true rfl) (fun z5 s6 h4 => ?_)
    obtain ⟨rfl, rfl⟩ := h4
    refine J_iadd 11 dX7_misheld_10 rfl ?_
    refine J_iret dX7_misheld_11 rfl ?_
    first | exact ⟨rfl, rfl⟩ | exact rfl | exact ⟨b01_t (by omega), rfl⟩ | exact ⟨b01_f (by omega), rfl⟩ | exact ⟨by omega, rfl⟩
  )
set_option maxHeartbeats 4000000 in
theorem l_X7_showsAsNumber (hw : w = 1 ∨ w = 8) : ∀ (k i : Nat) (d r : Int), i + k = nM (vC σ w) → d = i → r = digN (vC σ w 4) i → J P 1 (RX7, cX7_showsAsNumber, 3, some .int) 4 [some (vr P w), some (vi r), some (vi d)] [] σ (rI (digN (vC σ w 4) (nM (vC σ w))) σ) := by
  intro k
  induction k with
  | zero =>
    intro i d r hi hd hr
    refine J.bd (fun hB => ?_)
    have hn := vC_n hB hw
    have hvB := vC_B hB hw
    rcases hw with rfl | rfl <;> (
      refine J_iload_n (i := 2) 5 dX7_showsAsNumber_4 rfl rfl rfl ?_
      refine J_aload_n (i := 0) 6 dX7_showsAsNumber_5 rfl rfl rfl ?_
      refine J_getI (jz := 1) (lo := 0) (hi := 6) 9 dX7_showsAsNumber_6 rfl fX7_15 rfl rfl rfl rfl (fun b1 b2 => ?_)
      refine J_icmp_ge 30 12 dX7_showsAsNumber_9 rfl rfl (fun c3 => ?_) (fun c3 => ?_)
      · refine J_iload_n (i := 1) 31 dX7_showsAsNumber_30 rfl rfl rfl ?_
        refine J_iret dX7_showsAsNumber_31 rfl ?_
        refine ⟨?_, rfl⟩
        subst hr
        rw [Nat.add_zero] at hi
        rw [hi]
        try rfl
      · exfalso; omega
    )
  | succ k ih =>
    intro i d r hi hd hr
    refine J.bd (fun hB => ?_)
    have hn := vC_n hB hw
    have hvB := vC_B hB hw
    rcases hw with rfl | rfl <;> (
      refine J_iload_n (i := 2) 5 dX7_showsAsNumber_4 rfl rfl rfl ?_
      refine J_aload_n (i := 0) 6 dX7_showsAsNumber_5 rfl rfl rfl ?_
      refine J_getI (jz := 1) (lo := 0) (hi := 6) 9 dX7_showsAsNumber_6 rfl fX7_15 rfl rfl rfl rfl (fun b1 b2 => ?_)
      refine J_icmp_ge 30 12 dX7_showsAsNumber_9 rfl rfl (fun c3 => ?_) (fun c3 => ?_)
      · exfalso; omega
      · refine J_bipush 14 dX7_showsAsNumber_12 rfl (by decide) ?_
        refine J_iload_n (i := 1) 15 dX7_showsAsNumber_14 rfl rfl rfl ?_
        refine J_imul 16 dX7_showsAsNumber_15 rfl ?_
        refine J_aload_n (i := 0) 17 dX7_showsAsNumber_16 rfl rfl rfl ?_
        refine J_getR 20 dX7_showsAsNumber_17 rfl fX7_34 rfl rfl ?_
        refine J_iload_n (i := 2) 21 dX7_showsAsNumber_20 rfl rfl rfl ?_
        refine J_iald (N := 6) (lo := 0) (hi := 9) 22 dX7_showsAsNumber_21 rfl rfl rfl rfl (fun b4 b5 => ?_)
        refine J_iadd 23 dX7_showsAsNumber_22 rfl ?_
        refine J_istore_n (i := 1) 24 dX7_showsAsNumber_23 rfl rfl (by decide) ?_
        refine J_iinc 27 dX7_showsAsNumber_24 rfl (by decide) rfl ?_
        refine J_goto 4 dX7_showsAsNumber_27 rfl ?_
        refine ih (i + 1) _ _ (by omega) (by omega) ?_
        subst hd hr
        simp only [digN, vC, Nat.reduceLeDiff, ↓reduceIte, Nat.reduceAdd]
    )
theorem c_X7_showsAsNumber (hw : w = 1 ∨ w = 8 := by omega) : Ct P 1 yX7_showsAsNumber cX7_showsAsNumber 3 (some .int) [vr P w] σ (rI (digN (vC σ w 4) (nM (vC σ w))) σ) := by
  have hw' := hw
  rcases hw with rfl | rfl <;> (
    refine Ct.of _ rfl rfl rfl (Nat.le_of_ble_eq_true rfl) (fun hB => ?_)
    refine J_iconst 1 dX7_showsAsNumber_0 rfl ?_
    refine J_istore_n (i := 1) 2 dX7_showsAsNumber_1 rfl rfl (by decide) ?_
    refine J_iconst 3 dX7_showsAsNumber_2 rfl ?_
    refine J_istore_n (i := 2) 4 dX7_showsAsNumber_3 rfl rfl (by decide) ?_
    exact l_X7_showsAsNumber hw'  _ 0 _ _ (Nat.zero_add _) rfl rfl
  )
end

