/-! ===== a world may be told otherwise where nothing shows it ===== -/
def jEq (σ2 σ : jS) : Prop := ∀ k, k < 65 → (jkd k = 10 → ∀ j : Nat, j < jln k → σ2 k j = σ k j) ∧ (jkd k < 10 → ∀ j : Nat, (jrf k)[j]? = some none → σ2 k j = σ k j)
theorem jfv_ext2 {P : jP} {f g : Int → Int} : ∀ {l : List (Option Nat)} {i : Nat}, (∀ j : Nat, l[j]? = some none → f ((i + j : Nat) : Int) = g ((i + j : Nat) : Int)) → jfv P f i l = jfv P g i l
  | [], _, _ => rfl
  | none :: l, i, h => by
    have h0 := h 0 rfl
    rw [Nat.add_zero] at h0
    have ih : jfv P f (i + 1) l = jfv P g (i + 1) l := jfv_ext2 (fun j hj => by
      have := h (j + 1) (by simpa using hj)
      rw [show i + (j + 1) = i + 1 + j by omega] at this
      exact this)
    simp only [jfv]
    rw [h0, ih]
  | some r :: l, i, h => by
    have ih : jfv P f (i + 1) l = jfv P g (i + 1) l := jfv_ext2 (fun j hj => by
      have := h (j + 1) (by simpa using hj)
      rw [show i + (j + 1) = i + 1 + j by omega] at this
      exact this)
    simp only [jfv]
    rw [ih]
theorem sh_b {a : Nat} (k : Int) (h : a ≤ 2000000000) : 0 ≤ ((a / 2 ^ k.toNat : Nat) : Int) ∧ ((a / 2 ^ k.toNat : Nat) : Int) ≤ a := ⟨Int.natCast_nonneg _, Int.ofNat_le.mpr (Nat.div_le_self _ _)⟩
theorem arrV_ext {cI : ClassId} {N : Nat} {f g : Nat → Value} (h : ∀ j, j < N → f j = g j) : arrV cI N f = arrV cI N g := by
  unfold arrV
  congr 1
  congr 1
  funext j
  exact h j.val j.isLt
theorem jwd_norm {P : jP} {σ2 σ : jS} {H : Heap} (h : jEq σ2 σ) (hP : va_P (jD P) vwCl (jwd P σ) H) : va_P (jD P) vwCl (jwd P σ2) H := by
  intro k q hq
  have hk : k < 65 := by
    have := (List.getElem?_eq_some_iff.mp hq).1
    simpa [jwd] using this
  rw [jwd_at hk] at hq
  cases hq
  have hat := hP k _ (jwd_at hk)
  obtain ⟨h1, h2⟩ := h k hk
  by_cases c10 : jkd k = 10
  · rw [jce_arr c10] at hat ⊢
    have e : arrV P.2.2.1 (jln k) (fun j => Value.int (iI (σ k (j : Int)))) = arrV P.2.2.1 (jln k) (fun j => Value.int (iI (σ2 k (j : Int)))) := arrV_ext (fun j hj => by rw [h1 c10 j hj])
    have hat2 : H[jad P k]? = some (arrV P.2.2.1 (jln k) (fun j => Value.int (iI (σ k (j : Int))))) := hat
    rw [e] at hat2
    exact hat2
  · by_cases c11 : jkd k = 11
    · have e : jce P k (σ2 k) = jce P k (σ k) := by unfold jce; rw [if_neg c10, if_pos c11, if_neg c10, if_pos c11]
      rw [e]; exact hat
    · by_cases c9 : jkd k < 10
      · rw [jce_obj c9] at hat ⊢
        rw [jfv_ext2 (f := σ2 k) (g := σ k) (fun j hj => by rw [Nat.zero_add]; exact h2 c9 j hj)]
        exact hat
      · have e : jce P k (σ2 k) = jce P k (σ k) := by
          unfold jce
          rw [if_neg c10, if_neg c11, if_neg c10, if_neg c11]
          have e2 : jrf k = [] := by
            have key : ∀ k : Fin 65, ¬ jkd k.val = 10 → ¬ jkd k.val = 11 → ¬ jkd k.val < 10 → jrf k.val = [] := by decide +kernel
            exact key ⟨k, hk⟩ c10 c11 c9
          rw [e2]
          rfl
        rw [e]; exact hat
section
variable {P : jP} {dp : Nat} {M : jMt} {pc : Nat} {L : List (Option Value)} {rest : List Value} {σ σ2 : jS} {Q : Option Value → jS → Prop}
theorem J.norm (h : jEq σ2 σ) (hb : jBd σ → jBd σ2) (hh : J P dp M pc L rest σ2 Q) : J P dp M pc L rest σ Q := by
  intro B p l e R s m args below meth c C H locs hP hS ls hl
  exact hh (hb B) p l e R s m args below meth c C H locs (jwd_norm h hP) hS ls hl
theorem jEq_set {k : Nat} {f : Int → Int} (h1 : jkd k = 10 → ∀ j : Nat, j < jln k → f j = σ k j) (h2 : jkd k < 10 → ∀ j : Nat, (jrf k)[j]? = some none → f j = σ k j) : jEq (jset σ k f) σ := by
  intro k' hk'
  unfold jset
  by_cases e : k' = k
  · subst e
    exact ⟨fun q j hj => by rw [if_pos rfl]; exact h1 q j hj, fun q j hj => by rw [if_pos rfl]; exact h2 q j hj⟩
  · exact ⟨fun q j hj => by rw [if_neg e], fun q j hj => by rw [if_neg e]⟩
theorem jset_set (σ : jS) (k : Nat) (f g : Int → Int) : jset (jset σ k f) k g = jset σ k g := by
  funext k' j'
  unfold jset
  by_cases e : k' = k
  · rw [if_pos e, if_pos e]
  · rw [if_neg e, if_neg e, if_neg e]
theorem J_copyA {a b idx : Nat} {sp dq z Na Nb : Int} (n : Nat) (hd : decode M.2.1 pc = .ok (.invokestatic idx, 3)) (hp : pc + 3 = n) (hw : Cond.methodLink M.1 idx arraycopyName ∈ jw) (hka : jkd a = 10) (hkb : jkd b = 10) (hna : ((jln a : Nat) : Int) = Na) (hnb : ((jln b : Nat) : Int) = Nb) (hab : jbd a 0 = jbd b 0) (hd2 : 2 ≤ dp) (hrs : rest = []) (h : J P dp M n L rest (jset σ b (σ a)) Q) (h0 : sp = 0 ∧ dq = 0 ∧ z = Na ∧ z = Nb := by omega) : J P dp M pc L (vi z :: vi dq :: vr P b :: vi sp :: vr P a :: rest) σ Q := by
  obtain ⟨rfl, rfl, rfl, h4⟩ := h0
  refine J_copy n hd hp hw hka hkb hna hnb hab hd2 hrs ?_ (by subst hna; omega)
  have e : jset (jset σ b (jcpF σ a 0 b 0 z)) b (σ a) = jset σ b (σ a) := jset_set _ _ _ _
  refine J.norm (σ2 := jset σ b (σ a)) ?_ (fun B => ?_) h
  · rw [← e]
    refine jEq_set (fun _ j hj => ?_) (fun q => by omega)
    have : (j : Int) < z := by rw [h4, ← hnb]; exact Int.ofNat_lt.mpr hj
    unfold jset jcpF
    rw [if_pos rfl, if_pos (by omega)]
    congr 1
    omega
  · rw [← e]
    refine jBd_set B (fun j => ?_)
    by_cases q : a = b
    · subst q
      have h5 := B a (if 0 ≤ j ∧ j < z then j else j)
      have e3 : jset σ a (jcpF σ a 0 a 0 z) a j = σ a j := by
        unfold jset jcpF
        rw [if_pos rfl]
        split
        · congr 1; omega
        · rfl
      have h6 := B a j
      rw [e3] at h6
      exact h6
    · have h5 := B a j
      have e3 : jset σ b (jcpF σ a 0 b 0 z) a j = σ a j := by
        unfold jset
        rw [if_neg q]
      have e2 : jbi a j = jbi b j := by unfold jbi; rw [if_pos hka, if_pos hkb]; exact hab
      rw [e3, e2] at h5
      exact h5
theorem J.top {e e' : Int} (he : e = e') (h : J P dp M pc L (vi e' :: rest) σ Q) : J P dp M pc L (vi e :: rest) σ Q := he ▸ h
theorem J_iushr {x y : Int} (n : Nat) (hd : decode M.2.1 pc = .ok (.iushr, 1)) (hp : pc + 1 = n) (h : J P dp M n L (vi ((x.toNat / 2 ^ y.toNat : Nat) : Int) :: rest) σ Q) (hx : 0 ≤ x ∧ x ≤ 2147483647 := by omega) (hy : 0 ≤ y ∧ y ≤ 31 := by omega) : J P dp M pc L (vi y :: vi x :: rest) σ Q := by
  subst hp
  intro B p l e R s m args below meth c C H locs hP hS ls hl
  have key : ∀ k : Nat, k < 32 → (((nI k).toUInt32 &&& Int32.toUInt32 31).toBitVec % 32).toNat = k := by decide +kernel
  refine lv_iushr (v := iI ((x.toNat / 2 ^ y.toNat : Nat) : Int)) C.1 C.2.1 hd ?_ ?_
  · rw [iI_nat hx.1, iI_nat hy.1]
    have h3 := pk_ushrN (n := x.toNat) (by omega) (nI y.toNat) y.toNat (key _ (by omega))
    rw [h3, iI_ofNat]
    rfl
  · exact h B p l e R s m args below meth c C H locs hP hS ls hl
end
/-- how many bits -/
def popM (x : Int) : Int := ((x.toNat % 2 + x.toNat / 2 % 2 + x.toNat / 4 % 2 + x.toNat / 8 % 2 + x.toNat / 16 % 2 + x.toNat / 32 % 2 : Nat) : Int)
def popA (x : Int) : Int := x - iand ((x.toNat / 2 : Nat) : Int) 1431655765
def popB (x : Int) : Int := iand (popA x) 858993459 + iand (((popA x).toNat / 4 : Nat) : Int) 858993459
theorem pop_key : ∀ n : Fin 64, (0 ≤ popA (n.val : Int) ∧ popA (n.val : Int) ≤ 63) ∧ (0 ≤ popB (n.val : Int) ∧ popB (n.val : Int) ≤ 63) ∧ iand (popB (n.val : Int) + (((popB (n.val : Int)).toNat / 16 : Nat) : Int)) 252645135 = popM (n.val : Int) ∧ 0 ≤ popM (n.val : Int) ∧ popM (n.val : Int) ≤ 6 ∧ popM (n.val : Int) + (((popM (n.val : Int)).toNat / 256 : Nat) : Int) = popM (n.val : Int) ∧ popM (n.val : Int) + (((popM (n.val : Int)).toNat / 65536 : Nat) : Int) = popM (n.val : Int) ∧ iand (popM (n.val : Int)) 63 = popM (n.val : Int) := by decide +kernel
theorem popM_b {x : Int} (h : 0 ≤ x ∧ x ≤ 63) : 0 ≤ popM x ∧ popM x ≤ 6 := by
  have := pop_key ⟨x.toNat, by omega⟩
  have e : ((x.toNat : Nat) : Int) = x := by omega
  simp only [e] at this
  exact ⟨this.2.2.2.1, this.2.2.2.2.1⟩
theorem pop_add : ∀ (n : Fin 6) (a : Fin 32), a.val < 2 ^ n.val → popM ((a.val : Int) + 2 ^ n.val) = popM (a.val : Int) + 1 := by decide +kernel
theorem popM_set (f : Int → Bool) : ∀ n : Nat, n ≤ 6 → popM (setN f n) = sumN (fun c => if f c = true then 1 else 0) n := by
  intro n
  induction n with
  | zero => intro _; simp [popM, setN, sumN]
  | succ n ih =>
    intro hn
    simp only [setN, sumN]
    have hb := setN_b f n
    have hp := pow_64 (n := n) (by omega)
    have h32 : (2 : Int) ^ n ≤ 32 := by
      have key : ∀ n : Fin 6, (2 : Int) ^ n.val ≤ 32 := by decide
      exact key ⟨n, by omega⟩
    have hnat : (2 : Int) ^ n = ((2 ^ n : Nat) : Int) := by simp
    split
    · rename_i hf
      have h2 := pop_add ⟨n, by omega⟩ ⟨(setN f n).toNat, by omega⟩ (by show (setN f n).toNat < 2 ^ n; omega)
      have e : (((setN f n).toNat : Nat) : Int) = setN f n := by omega
      simp only [e] at h2
      rw [h2, ih (by omega)]
    · rw [ih (by omega)]; omega
section
variable {P : jP} {w o : Nat} {c g x y z : Int} {σ : jS}
theorem c_J6_bitCount_0f7a4 (hx : 0 ≤ x ∧ x ≤ 63 := by omega) : Ct P 1 yJ6_bitCount_0f7a4 cJ6_bitCount_0f7a4 1 (some .int) [vi x] σ (rI (popM x) σ) := by
  obtain ⟨⟨a1, a2⟩, ⟨b1, b2⟩, k1, k2, k3, k4, k5, k6⟩ := pop_key ⟨x.toNat, by omega⟩
  have e : ((x.toNat : Nat) : Int) = x := by omega
  simp only [e] at a1 a2 b1 b2 k1 k2 k3 k4 k5 k6
  have d1 := sh_b (a := x.toNat) 1 (by omega)
  have d2 := sh_b (a := (popA x).toNat) 2 (by omega)
  have d4 := sh_b (a := (popB x).toNat) 4 (by omega)
  have d8 := sh_b (a := (popM x).toNat) 8 (by omega)
  have d16 := sh_b (a := (popM x).toNat) 16 (by omega)
  have n1 : 0 ≤ iand (popA x) 858993459 := Int.natCast_nonneg _
  have n2 : 0 ≤ iand (((popA x).toNat / 4 : Nat) : Int) 858993459 := Int.natCast_nonneg _
  refine Ct.of _ rfl rfl rfl (Nat.le_of_ble_eq_true rfl) (fun hB => ?_)
  refine J_iload_n (i := 0) 1 dJ6_bitCount_0f7a4_0 rfl rfl rfl ?_
  refine J_iload_n (i := 0) 2 dJ6_bitCount_0f7a4_1 rfl rfl rfl ?_
  refine J_iconst 3 dJ6_bitCount_0f7a4_2 rfl ?_
  refine J_iushr 4 dJ6_bitCount_0f7a4_3 rfl ?_
  refine J_ldcw 7 dJ6_bitCount_0f7a4_4 rfl cstJ6_265 ?_
  refine J_iand 8 dJ6_bitCount_0f7a4_7 rfl ?_
  refine J_isub 9 dJ6_bitCount_0f7a4_8 rfl ?_
  refine J.top (e' := popA x) rfl ?_
  refine J_istore_n (i := 0) 10 dJ6_bitCount_0f7a4_9 rfl rfl (by decide) ?_
  refine J_iload_n (i := 0) 11 dJ6_bitCount_0f7a4_10 rfl rfl rfl ?_
  refine J_ldcw 14 dJ6_bitCount_0f7a4_11 rfl cstJ6_266 ?_
  refine J_iand 15 dJ6_bitCount_0f7a4_14 rfl ?_
  refine J_iload_n (i := 0) 16 dJ6_bitCount_0f7a4_15 rfl rfl rfl ?_
  refine J_iconst 17 dJ6_bitCount_0f7a4_16 rfl ?_
  refine J_iushr 18 dJ6_bitCount_0f7a4_17 rfl ?_
  refine J_ldcw 21 dJ6_bitCount_0f7a4_18 rfl cstJ6_266 ?_
  refine J_iand 22 dJ6_bitCount_0f7a4_21 rfl ?_
  refine J_iadd 23 dJ6_bitCount_0f7a4_22 rfl ?_
  refine J.top (e' := popB x) rfl ?_
  refine J_istore_n (i := 0) 24 dJ6_bitCount_0f7a4_23 rfl rfl (by decide) ?_
  refine J_iload_n (i := 0) 25 dJ6_bitCount_0f7a4_24 rfl rfl rfl ?_
  refine J_iload_n (i := 0) 26 dJ6_bitCount_0f7a4_25 rfl rfl rfl ?_
  refine J_iconst 27 dJ6_bitCount_0f7a4_26 rfl ?_
  refine J_iushr 28 dJ6_bitCount_0f7a4_27 rfl ?_
  refine J_iadd 29 dJ6_bitCount_0f7a4_28 rfl ?_
  refine J_ldcw 32 dJ6_bitCount_0f7a4_29 rfl cstJ6_267 ?_
  refine J_iand 33 dJ6_bitCount_0f7a4_32 rfl ?_
  refine J.top (e' := popM x) k1 ?_
  refine J_istore_n (i := 0) 34 dJ6_bitCount_0f7a4_33 rfl rfl (by decide) ?_
  refine J_iload_n (i := 0) 35 dJ6_bitCount_0f7a4_34 rfl rfl rfl ?_
  refine J_iload_n (i := 0) 36 dJ6_bitCount_0f7a4_35 rfl rfl rfl ?_
  refine J_bipush 38 dJ6_bitCount_0f7a4_36 rfl (by decide) ?_
  refine J_iushr 39 dJ6_bitCount_0f7a4_38 rfl ?_
  refine J_iadd 40 dJ6_bitCount_0f7a4_39 rfl ?_
  refine J.top (e' := popM x) k4 ?_
  refine J_istore_n (i := 0) 41 dJ6_bitCount_0f7a4_40 rfl rfl (by decide) ?_
  refine J_iload_n (i := 0) 42 dJ6_bitCount_0f7a4_41 rfl rfl rfl ?_
  refine J_iload_n (i := 0) 43 dJ6_bitCount_0f7a4_42 rfl rfl rfl ?_
  refine J_bipush 45 dJ6_bitCount_0f7a4_43 rfl (by decide) ?_
  refine J_iushr 46 dJ6_bitCount_0f7a4_45 rfl ?_
  refine J_iadd 47 dJ6_bitCount_0f7a4_46 rfl ?_
  refine J.top (e' := popM x) k5 ?_
  refine J_istore_n (i := 0) 48 dJ6_bitCount_0f7a4_47 rfl rfl (by decide) ?_
  refine J_iload_n (i := 0) 49 dJ6_bitCount_0f7a4_48 rfl rfl rfl ?_
  refine J_bipush 51 dJ6_bitCount_0f7a4_49 rfl (by decide) ?_
  refine J_iand 52 dJ6_bitCount_0f7a4_51 rfl ?_
  refine J_iret dJ6_bitCount_0f7a4_52 rfl ?_
  exact ⟨k6.symm, rfl⟩
end

