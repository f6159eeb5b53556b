/-! ===== the reference: a winter by a text ===== -/
def rwQ (τ : jS) (f : Int → Int) (a : Int) (v0 : jS) (N : Nat) (z : Int) (σ' : jS) : Prop := RF τ σ' ∧ ((z = 1 ∧ readR f a v0 N = -9 ∧ rvp (pE f a v0 N).2.2 σ' 2 ∧ 1 ≤ (pE f a v0 N).2.2 0 1 ∧ 1 ≤ (pE f a v0 N).2.2 0 0) ∨ (z = 0 ∧ readR f a v0 N = σ' 36 12))
section
variable {P : jP} {w o : Nat} {a b c d g x y z n s i j k l m r : Int} {σ τ τ0 v v0 V u : jS} {f : Int → Int} {p N : Nat}
theorem l_X9_rwF73 (hRF : RF σ τ) (hr : readR f a v0 N = τ 36 12) : J P 4 (RX9, cX9_readsWinter, 4, some .boolean) 73 [some (vr P 36), some (vi a), some (vi (N : Int)), some (vi 0)] [] τ (qi (rwQ σ f a v0 N)) := by
  refine J_iload_n (i := 3) 74 dX9_readsWinter_73 rfl rfl rfl ?_
  refine J_if_eq 103 77 dX9_readsWinter_74 rfl rfl (fun c1 => ?_) (fun c1 => ?_)
  · refine J_iload_n (i := 3) 104 dX9_readsWinter_103 rfl rfl rfl ?_
    refine J_zret dX9_readsWinter_104 rfl ?_
    exact ⟨hRF, Or.inr ⟨rfl, hr⟩⟩
  · exfalso; omega
theorem l_X9_rwF40 (hRF : RF σ τ) (hr : readR f a v0 N = τ 36 12) : J P 4 (RX9, cX9_readsWinter, 4, some .boolean) 40 [some (vr P 36), some (vi a), some (vi (N : Int)), some (vi 0)] [] τ (qi (rwQ σ f a v0 N)) := by
  refine J_iload_n (i := 3) 41 dX9_readsWinter_40 rfl rfl rfl ?_
  refine J_if_eq 73 44 dX9_readsWinter_41 rfl rfl (fun c1 => ?_) (fun c1 => ?_)
  · exact l_X9_rwF73 hRF hr
  · exfalso; omega
set_option maxHeartbeats 4000000 in
theorem l_X9_rwB (ha : 0 ≤ a ∧ a + N ≤ 240) (hN : N ≤ 60) : ∀ (k p : Nat) (s : Int) (V τ : jS), N < p + k → p ≤ N → τ 63 = f → τ 36 12 = p → pE f a v0 p = (-1, s, V) → rvp V τ 2 → 1 ≤ V 0 0 → ((s = 3 ∧ V 0 1 = 0 ∧ ¬ cdM f a N p = 44) ∨ (s = 9 ∧ 1 ≤ V 0 1)) → RF σ τ → J P 4 (RX9, cX9_readsWinter, 4, some .boolean) 73 [some (vr P 36), some (vi a), some (vi (N : Int)), some (vi 1)] [] τ (qi (rwQ σ f a v0 N)) := by
  intro k
  induction k with
  | zero => intro p s V τ h1 h2; exfalso; omega
  | succ k ih =>
    intro p s V τ hk hp e63 e12 hE hv hg hs hRF
    have e14 := hv.2.1
    refine J_iload_n (i := 3) 74 dX9_readsWinter_73 rfl rfl rfl ?_
    refine J_if_eq 103 77 dX9_readsWinter_74 rfl rfl (fun c1 => ?_) (fun c1 => ?_)
    · refine J_iload_n (i := 3) 104 dX9_readsWinter_103 rfl rfl rfl ?_
      refine J_zret dX9_readsWinter_104 rfl ?_
      first
        | (exfalso; omega)
        | (obtain rfl : p = N := by omega
           obtain ⟨rfl, h9⟩ : s = 9 ∧ 1 ≤ V 0 1 := by omega
           refine ⟨hRF, Or.inl ⟨rfl, rd_ok hE, ?_, ?_, ?_⟩⟩
           · rw [hE]; exact hv
           · rw [hE]; exact h9
           · rw [hE]; exact hg)
    · refine J_aload_n (i := 0) 78 dX9_readsWinter_77 rfl rfl rfl ?_
      refine J_getI (jz := 14) (lo := 0) (hi := 6) 81 dX9_readsWinter_78 rfl fX9_128 rfl rfl rfl rfl (fun b2 b3 => ?_)
      refine J_iconst 82 dX9_readsWinter_81 rfl ?_
      refine J_icmp_lt 93 85 dX9_readsWinter_82 rfl rfl (fun c4 => ?_) (fun c4 => ?_)
      · refine J_aload_n (i := 0) 94 dX9_readsWinter_93 rfl rfl rfl ?_
        refine J_iload_n (i := 1) 95 dX9_readsWinter_94 rfl rfl rfl ?_
        refine J_iload_n (i := 2) 96 dX9_readsWinter_95 rfl rfl rfl ?_
        refine J_callVi 99 dX9_readsWinter_96 rfl kX9_135 mX9_readsComer rfl rfl rfl (c_X9_readsComer ha hN e63 e12 hp hE hv hg (by omega)) (by first | decide | omega) rfl rfl (Nat.le_of_ble_eq_true rfl) (fun z6 s7 h5 => ?_)
        have hq := h5
        refine J_istore_n (i := 3) 100 dX9_readsWinter_99 rfl rfl (by decide) ?_
        refine J_goto 73 dX9_readsWinter_100 rfl ?_
        obtain ⟨hRF2, ⟨hz, h2, h3, V2, h4, h5, h6, h7⟩ | ⟨hz, h2⟩⟩ := hq
        · rw [hz]
          exact ih (p + 6) 9 V2 _ (by omega) h2 ((hRF2.1 63 (by omega) (by omega)).trans e63) h3 h4 h5 h7 (Or.inr ⟨rfl, h6⟩) (RF_trans hRF hRF2)
        · rw [hz]
          exact l_X9_rwF73 (RF_trans hRF hRF2) h2
      · refine J_aload_n (i := 0) 86 dX9_readsWinter_85 rfl rfl rfl ?_
        refine J_getI (jz := 12) (lo := 0) (hi := 60) 89 dX9_readsWinter_86 rfl fX9_114 rfl rfl rfl rfl (fun b8 b9 => ?_)
        refine J_iload_n (i := 2) 90 dX9_readsWinter_89 rfl rfl rfl ?_
        refine J_icmp_ge 103 93 dX9_readsWinter_90 rfl rfl (fun c10 => ?_) (fun c10 => ?_)
        · refine J_iload_n (i := 3) 104 dX9_readsWinter_103 rfl rfl rfl ?_
          refine J_zret dX9_readsWinter_104 rfl ?_
          first
            | (exfalso; omega)
            | (obtain rfl : p = N := by omega
               obtain ⟨rfl, h9⟩ : s = 9 ∧ 1 ≤ V 0 1 := by omega
               refine ⟨hRF, Or.inl ⟨rfl, rd_ok hE, ?_, ?_, ?_⟩⟩
               · rw [hE]; exact hv
               · rw [hE]; exact h9
               · rw [hE]; exact hg)
        · refine J_aload_n (i := 0) 94 dX9_readsWinter_93 rfl rfl rfl ?_
          refine J_iload_n (i := 1) 95 dX9_readsWinter_94 rfl rfl rfl ?_
          refine J_iload_n (i := 2) 96 dX9_readsWinter_95 rfl rfl rfl ?_
          refine J_callVi 99 dX9_readsWinter_96 rfl kX9_135 mX9_readsComer rfl rfl rfl (c_X9_readsComer ha hN e63 e12 hp hE hv hg (by omega)) (by first | decide | omega) rfl rfl (Nat.le_of_ble_eq_true rfl) (fun z12 s13 h11 => ?_)
          have hq := h11
          refine J_istore_n (i := 3) 100 dX9_readsWinter_99 rfl rfl (by decide) ?_
          refine J_goto 73 dX9_readsWinter_100 rfl ?_
          obtain ⟨hRF2, ⟨hz, h2, h3, V2, h4, h5, h6, h7⟩ | ⟨hz, h2⟩⟩ := hq
          · rw [hz]
            exact ih (p + 6) 9 V2 _ (by omega) h2 ((hRF2.1 63 (by omega) (by omega)).trans e63) h3 h4 h5 h7 (Or.inr ⟨rfl, h6⟩) (RF_trans hRF hRF2)
          · rw [hz]
            exact l_X9_rwF73 (RF_trans hRF hRF2) h2
set_option maxHeartbeats 4000000 in
theorem l_X9_rwA (ha : 0 ≤ a ∧ a + N ≤ 240) (hN : N ≤ 60) : ∀ (k p : Nat) (s : Int) (V τ : jS), N < p + k → p ≤ N → τ 63 = f → τ 36 12 = p → pE f a v0 p = (-1, s, V) → rvp V τ 2 → V 0 1 = 0 → ((s = 1 ∧ V 0 0 = 0) ∨ (s = 3 ∧ 1 ≤ V 0 0)) → RF σ τ → J P 4 (RX9, cX9_readsWinter, 4, some .boolean) 40 [some (vr P 36), some (vi a), some (vi (N : Int)), some (vi 1)] [] τ (qi (rwQ σ f a v0 N)) := by
  intro k
  induction k with
  | zero => intro p s V τ h1 h2; exfalso; omega
  | succ k ih =>
    intro p s V τ hk hp e63 e12 hE hv h01 hs hRF
    have eg := hv.1
    refine J.bd (fun hB => ?_)
    have hcb := cdM_b (f := τ 63) (fun j => hB 63 j) a N p
    rw [e63] at hcb
    refine J_iload_n (i := 3) 41 dX9_readsWinter_40 rfl rfl rfl ?_
    refine J_if_eq 73 44 dX9_readsWinter_41 rfl rfl (fun c1 => ?_) (fun c1 => ?_)
    · first
        | (exfalso; omega)
        | exact l_X9_rwB ha hN (N + 1) p s V τ (by omega) hp e63 e12 hE hv (by omega) (by omega) hRF
    · refine J_aload_n (i := 0) 45 dX9_readsWinter_44 rfl rfl rfl ?_
      refine J_getI (jz := 13) (lo := 0) (hi := 3) 48 dX9_readsWinter_45 rfl fX9_121 rfl rfl rfl rfl (fun b2 b3 => ?_)
      refine J_iconst 49 dX9_readsWinter_48 rfl ?_
      refine J_icmp_lt 63 52 dX9_readsWinter_49 rfl rfl (fun c4 => ?_) (fun c4 => ?_)
      · refine J_aload_n (i := 0) 64 dX9_readsWinter_63 rfl rfl rfl ?_
        refine J_iload_n (i := 1) 65 dX9_readsWinter_64 rfl rfl rfl ?_
        refine J_iload_n (i := 2) 66 dX9_readsWinter_65 rfl rfl rfl ?_
        refine J_callVi 69 dX9_readsWinter_66 rfl kX9_131 mX9_readsGate rfl rfl rfl (c_X9_readsGate ha hN e63 e12 hp hE hv h01 (by omega)) (by first | decide | omega) rfl rfl (Nat.le_of_ble_eq_true rfl) (fun z6 s7 h5 => ?_)
        have hq := h5
        refine J_istore_n (i := 3) 70 dX9_readsWinter_69 rfl rfl (by decide) ?_
        refine J_goto 40 dX9_readsWinter_70 rfl ?_
        obtain ⟨hRF2, ⟨hz, h2, h3, V2, h4, h5, h6, h7⟩ | ⟨hz, h2⟩⟩ := hq
        · rw [hz]
          exact ih (p + 2) 3 V2 _ (by omega) h2 ((hRF2.1 63 (by omega) (by omega)).trans e63) h3 h4 h5 h6 (Or.inr ⟨rfl, h7⟩) (RF_trans hRF hRF2)
        · rw [hz]
          exact l_X9_rwF40 (RF_trans hRF hRF2) h2
      · refine J_aload_n (i := 0) 53 dX9_readsWinter_52 rfl rfl rfl ?_
        refine J_iload_n (i := 1) 54 dX9_readsWinter_53 rfl rfl rfl ?_
        refine J_iload_n (i := 2) 55 dX9_readsWinter_54 rfl rfl rfl ?_
        refine J_callVi 58 dX9_readsWinter_55 rfl kX9_117 mX9_codeAt rfl rfl rfl (c_X9_codeAt ha (by omega)) (by first | decide | omega) rfl rfl (Nat.le_of_ble_eq_true rfl) (fun z9 s10 h8 => ?_)
        obtain ⟨hz, rfl⟩ := h8
        rw [e63, e12] at hz
        subst hz
        refine J_bipush 60 dX9_readsWinter_58 rfl (by decide) ?_
        refine J_icmp_ne 73 63 dX9_readsWinter_60 rfl rfl (fun c11 => ?_) (fun c11 => ?_)
        · first
            | (exfalso; omega)
            | exact l_X9_rwB ha hN (N + 1) p s V τ (by omega) hp e63 e12 hE hv (by omega) (by omega) hRF
        · refine J_aload_n (i := 0) 64 dX9_readsWinter_63 rfl rfl rfl ?_
          refine J_iload_n (i := 1) 65 dX9_readsWinter_64 rfl rfl rfl ?_
          refine J_iload_n (i := 2) 66 dX9_readsWinter_65 rfl rfl rfl ?_
          refine J_callVi 69 dX9_readsWinter_66 rfl kX9_131 mX9_readsGate rfl rfl rfl (c_X9_readsGate ha hN e63 e12 hp hE hv h01 (by omega)) (by first | decide | omega) rfl rfl (Nat.le_of_ble_eq_true rfl) (fun z13 s14 h12 => ?_)
          have hq := h12
          refine J_istore_n (i := 3) 70 dX9_readsWinter_69 rfl rfl (by decide) ?_
          refine J_goto 40 dX9_readsWinter_70 rfl ?_
          obtain ⟨hRF2, ⟨hz, h2, h3, V2, h4, h5, h6, h7⟩ | ⟨hz, h2⟩⟩ := hq
          · rw [hz]
            exact ih (p + 2) 3 V2 _ (by omega) h2 ((hRF2.1 63 (by omega) (by omega)).trans e63) h3 h4 h5 h6 (Or.inr ⟨rfl, h7⟩) (RF_trans hRF hRF2)
          · rw [hz]
            exact l_X9_rwF40 (RF_trans hRF hRF2) h2
set_option maxHeartbeats 4000000 in
theorem c_X9_readsWinter (ha : 0 ≤ a ∧ a + N ≤ 240) (hN : N ≤ 60) (e63 : σ 63 = f) : Ct P 4 yX9_readsWinter cX9_readsWinter 4 (some .boolean) [vr P 36, vi a, vi (N : Int)] σ (qi (rwQ σ f a (beginV u) N)) := by
  refine Ct.bd (fun hB => ?_)
  have hcb := cdM_b (f := σ 63) (fun j => hB 63 j) a N (0 : Nat)
  rw [e63] at hcb
  have hE0 : pE f a (beginV u) 0 = (-1, 0, beginV u) := rfl
  have hRF0 : RF σ (jup (jup (jup σ 36 12 0) 36 13 0) 36 14 0) := RF_trans (RF_trans (RF_up (by omega)) (RF_up (by omega))) (RF_up (by omega))
  have hv0 : rvp (beginV u) (jup (jup (jup σ 36 12 0) 36 13 0) 36 14 0) 2 := ⟨rfl, rfl, rfl, rfl, fun j h1 h2 => by exfalso; have h3 : j < 0 := h2; omega, fun r h1 h2 j h3 h4 => by exfalso; have h5 : j < 0 ∨ (j = 0 ∧ r < 2) := h4; omega, fun j h3 h4 => by exfalso; have h5 : j < 0 ∨ (j = 0 ∧ 5 < 2) := h4; omega⟩
  have e0 : (jup (jup (jup σ 36 12 0) 36 13 0) 36 14 0) 63 = f := by rw [jup_ne (by omega), jup_ne (by omega), jup_ne (by omega)]; exact e63
  refine Ct.of _ rfl rfl rfl (Nat.le_of_ble_eq_true rfl) (fun hB => ?_)
  refine J_aload_n (i := 0) 1 dX9_readsWinter_0 rfl rfl rfl ?_
  refine J_iconst 2 dX9_readsWinter_1 rfl ?_
  refine J_putI (jz := 12) (lo := 0) (hi := 60) 5 dX9_readsWinter_2 rfl gX9_114 rfl rfl rfl rfl ?_
  refine J_aload_n (i := 0) 6 dX9_readsWinter_5 rfl rfl rfl ?_
  refine J_iconst 7 dX9_readsWinter_6 rfl ?_
  refine J_putI (jz := 13) (lo := 0) (hi := 3) 10 dX9_readsWinter_7 rfl gX9_121 rfl rfl rfl rfl ?_
  refine J_aload_n (i := 0) 11 dX9_readsWinter_10 rfl rfl rfl ?_
  refine J_iconst 12 dX9_readsWinter_11 rfl ?_
  refine J_putI (jz := 14) (lo := 0) (hi := 6) 15 dX9_readsWinter_12 rfl gX9_128 rfl rfl rfl rfl ?_
  refine J_aload_n (i := 0) 16 dX9_readsWinter_15 rfl rfl rfl ?_
  refine J_iload_n (i := 1) 17 dX9_readsWinter_16 rfl rfl rfl ?_
  refine J_iload_n (i := 2) 18 dX9_readsWinter_17 rfl rfl rfl ?_
  refine J_callVi 21 dX9_readsWinter_18 rfl kX9_117 mX9_codeAt rfl rfl rfl (c_X9_codeAt ha (by omega)) (by first | decide | omega) rfl rfl (Nat.le_of_ble_eq_true rfl) (fun z2 s3 h1 => ?_)
  obtain ⟨hz, rfl⟩ := h1
  rw [e0, show (jup (jup (jup σ 36 12 0) 36 13 0) 36 14 0) 36 12 = ((0 : Nat) : Int) from rfl] at hz
  subst hz
  refine J_bipush 23 dX9_readsWinter_21 rfl (by decide) ?_
  refine J_icmp_eq 28 26 dX9_readsWinter_23 rfl rfl (fun c4 => ?_) (fun c4 => ?_)
  · have hpN : 0 < N := cdM_lt (f := f) (a := a) (by omega)
    have hE1 : pE f a (beginV u) (0 + 1) = (-1, 1, beginV u) := pE_step hE0 (by rw [cdM_in hpN] at *; unfold pS; rw [if_pos rfl, if_pos (by omega)]) (by omega)
    refine J_aload_n (i := 0) 29 dX9_readsWinter_28 rfl rfl rfl ?_
    refine J_dup 30 dX9_readsWinter_29 rfl rfl ?_
    refine J_getI (jz := 12) (lo := 0) (hi := 60) 33 dX9_readsWinter_30 rfl fX9_114 rfl rfl rfl rfl (fun b5 b6 => ?_)
    try simp +decide only [jup, ↓reduceIte] at b5 b6 ⊢
    refine J_iconst 34 dX9_readsWinter_33 rfl ?_
    refine J_iadd 35 dX9_readsWinter_34 rfl ?_
    refine J_putI (jz := 12) (lo := 0) (hi := 60) 38 dX9_readsWinter_35 rfl gX9_114 rfl rfl rfl rfl ?_
    refine J_iconst 39 dX9_readsWinter_38 rfl ?_
    refine J_istore_n (i := 3) 40 dX9_readsWinter_39 rfl rfl (by decide) ?_
    refine l_X9_rwA ha hN (N + 1) 1 1 (beginV u) _ (by omega) (by omega) ?_ rfl hE1 (rvp_12 hv0 (fun q h => jup_ne h) (fun j h => jup_ne2 h)) rfl (Or.inl ⟨rfl, rfl⟩) (RF_trans hRF0 (RF_up (by omega)))
    rw [jup_ne (by omega)]
    exact e0
  · refine J_iconst 27 dX9_readsWinter_26 rfl ?_
    refine J_zret dX9_readsWinter_27 rfl ?_
    refine ⟨hRF0, Or.inr ⟨rfl, ?_⟩⟩
    show _ = ((0 : Nat) : Int)
    refine rd_stop (p := 0) hE0 (Nat.zero_le _) (by omega) (fun hpN => ?_)
    rw [cdM_in hpN] at *
    unfold pS
    rw [if_pos rfl]
    show (if _ = 119 then (1 : Int) else -1) = -1
    rw [if_neg (by omega)]
def wnS (σ V : jS) (a b : Int) (τ : jS) : Prop := (∀ q, (q < 36 ∨ (59 ≤ q ∧ q ≤ 63)) → τ q = σ q) ∧ (τ 36 1 = V 0 0 ∧ τ 36 2 = V 0 1 ∧ τ 36 3 = 0 ∧ τ 36 4 = 1 ∧ τ 36 40 = σ 36 40) ∧ (∀ j, 0 ≤ j → j < a → τ 37 j = V 1 j) ∧ (∀ r : Nat, 2 ≤ r → r ≤ 6 → ∀ j, 0 ≤ j → j < b → τ (36 + r) j = V r j) ∧ (∀ j, 0 ≤ j → j < b → τ 43 j = 0) ∧ (∀ j, 0 ≤ j → j < V 0 0 → V 1 j = τ 44 j) ∧ (∀ r : Nat, 2 ≤ r → r ≤ 6 → ∀ j, 0 ≤ j → j < V 0 1 → V r j = τ (43 + r) j)
theorem wn_a (h : wnS σ V d 0 τ) (hd : 0 ≤ d ∧ d < V 0 0) : wnS σ V (d + 1) 0 (jup τ 37 d (τ 44 d)) := by
  obtain ⟨h1, h2, h3, h4, h5, h6, h7⟩ := h
  refine ⟨fun q hq => (jup_ne (by omega)).trans (h1 q hq), h2, fun j x y => ?_, fun r x y j z w => by omega, fun j x y => by omega, h6, fun r x y j z w => by rw [jup_ne (by omega)]; exact h7 r x y j z w⟩
  by_cases e : j = d
  · rw [e, jup_at]; exact (h6 d hd.1 hd.2).symm
  · rw [jup_ne2 e]; exact h3 j x (by omega)
theorem wn_b (h : wnS σ V a d τ) (hd : 0 ≤ d ∧ d < V 0 1) : wnS σ V a (d + 1) (jup (jup (jup (jup (jup (jup τ 38 d (τ 45 d)) 39 d (τ 46 d)) 40 d (τ 47 d)) 41 d (τ 48 d)) 42 d (τ 49 d)) 43 d 0) := by
  obtain ⟨h1, h2, h3, h4, h5, h6, h7⟩ := h
  refine ⟨fun q hq => ?_, h2, h3, fun r x y j z w => ?_, fun j x y => ?_, h6, fun r x y j z w => ?_⟩
  · rw [jup_ne (by omega), jup_ne (by omega), jup_ne (by omega), jup_ne (by omega), jup_ne (by omega), jup_ne (by omega)]
    exact h1 q hq
  · have key : ∀ q : Nat, τ q j = V r j ∨ j = d → jup τ q d (V r d) q j = V r j := by
      intro q hq
      by_cases e : j = d
      · rw [e, jup_at]
      · rw [jup_ne2 e]; exact hq.resolve_right e
    have h4r := fun (hj : j < d) => h4 r x y j z hj
    have h7d := h7 r x y d hd.1 hd.2
    have hk := key (36 + r) (by
      by_cases e : j = d
      · exact Or.inr e
      · exact Or.inl (h4r (by omega)))
    rw [h7d] at hk
    rcases (show r = 2 ∨ r = 3 ∨ r = 4 ∨ r = 5 ∨ r = 6 by omega) with rfl | rfl | rfl | rfl | rfl <;> exact hk
  · show jup τ 43 d 0 43 j = 0
    by_cases e : j = d
    · rw [e, jup_at]
    · rw [jup_ne2 e]; exact h5 j x (by omega)
  · rw [jup_ne (by omega), jup_ne (by omega), jup_ne (by omega), jup_ne (by omega), jup_ne (by omega), jup_ne (by omega)]
    exact h7 r x y j z w
def wnQ (σ V σ' : jS) : Prop := wnS σ V (V 0 0) (V 0 1) σ' ∧ σ' 36 0 = 0 ∧ σ' 36 33 = 0 ∧ (∀ j, 0 ≤ j → j < V 0 1 → V 5 j < V 0 0) ∧ 1 ≤ V 0 1 ∧ 1 ≤ V 0 0 ∧ V 0 2 = 0 ∧ V 0 3 = 1
theorem wn_end (h : wnS σ V a b τ) : wnS σ V a b (jup (jup τ 36 33 0) 36 0 0) := by
  obtain ⟨h1, h2, h3, h4, h5, h6, h7⟩ := h
  exact ⟨fun q hq => (jup_ne (by omega)).trans ((jup_ne (by omega)).trans (h1 q hq)), h2, h3, fun r x y j z w => by rw [jup_ne (by omega), jup_ne (by omega)]; exact h4 r x y j z w, h5, h6, fun r x y j z w => by rw [jup_ne (by omega), jup_ne (by omega)]; exact h7 r x y j z w⟩
set_option maxHeartbeats 4000000 in
theorem l_X9_winB {q : Int} (h23 : V 0 2 = 0 ∧ V 0 3 = 1) (hg5 : ∀ j, 0 ≤ j → j < V 0 1 → V 5 j < V 0 0) (hg : 1 ≤ V 0 0) (hn : 1 ≤ V 0 1 ∧ V 0 1 ≤ 6) (hpos : ∀ r : Nat, 2 ≤ r → r ≤ 6 → ∀ j, 0 ≤ j → j < V 0 1 → 0 ≤ V r j) : ∀ (k p : Nat) (d : Int) (τ : jS), p + k = (V 0 1).toNat → d = p → wnS σ V (V 0 0) d τ → J P 5 (RX9, cX9_winter, 7, some .int) 140 [some (vr P 36), some (vi x), some (vi l), some (vi i), some (vi n), some (vi q), some (vi d)] [] τ (qi fun z σ' => V 0 1 = z ∧ wnQ σ V σ') := by
  intro k
  induction k with
  | zero =>
    intro p d τ hp hd hw
    have en := hw.2.1.2.1
    have ed : d = V 0 1 := by omega
    refine J_iload 142 dX9_winter_140 rfl rfl ?_
    refine J_aload_n (i := 0) 143 dX9_winter_142 rfl rfl rfl ?_
    refine J_getI (jz := 2) (lo := 0) (hi := 6) 146 dX9_winter_143 rfl fX9_104 rfl rfl rfl rfl (fun b1 b2 => ?_)
    refine J_icmp_ge 233 149 dX9_winter_146 rfl rfl (fun c3 => ?_) (fun c3 => ?_)
    · refine J_aload_n (i := 0) 234 dX9_winter_233 rfl rfl rfl ?_
      refine J_iconst 235 dX9_winter_234 rfl ?_
      refine J_putI (jz := 33) (lo := 0) (hi := 8) 238 dX9_winter_235 rfl gX9_168 rfl rfl rfl rfl ?_
      refine J_aload_n (i := 0) 239 dX9_winter_238 rfl rfl rfl ?_
      refine J_aload_n (i := 0) 240 dX9_winter_239 rfl rfl rfl ?_
      refine J_getI (jz := 2) (lo := 0) (hi := 6) 243 dX9_winter_240 rfl fX9_104 rfl rfl rfl rfl (fun b4 b5 => ?_)
      try simp +decide only [jup, ↓reduceIte] at b4 b5 ⊢
      refine J_callVi 246 dX9_winter_243 rfl kX9_150 mX9_refused rfl rfl rfl (c_X9_refusedU) (by first | decide | omega) rfl rfl (Nat.le_of_ble_eq_true rfl) (fun z7 s8 h6 => ?_)
      obtain ⟨rfl, rfl⟩ := h6
      refine J_iret dX9_winter_246 rfl ?_
      rw [ed] at hw
      exact ⟨en.symm, wn_end hw, rfl, rfl, hg5, hn.1, hg, h23⟩
    · exfalso; omega
  | succ k ih =>
    intro p d τ hp hd hw
    have en := hw.2.1.2.1
    have hs := hw.2.2.2.2.2.2
    have s2 : V 2 d = τ 45 d := hs 2 (by omega) (by omega) d (by omega) (by omega)
    have s3 : V 3 d = τ 46 d := hs 3 (by omega) (by omega) d (by omega) (by omega)
    have s4 : V 4 d = τ 47 d := hs 4 (by omega) (by omega) d (by omega) (by omega)
    have s5 : V 5 d = τ 48 d := hs 5 (by omega) (by omega) d (by omega) (by omega)
    have s6 : V 6 d = τ 49 d := hs 6 (by omega) (by omega) d (by omega) (by omega)
    have q3 := hpos 3 (by omega) (by omega) d (by omega) (by omega)
    have q4 := hpos 4 (by omega) (by omega) d (by omega) (by omega)
    have q5 := hpos 5 (by omega) (by omega) d (by omega) (by omega)
    have q6 := hpos 6 (by omega) (by omega) d (by omega) (by omega)
    refine J_iload 142 dX9_winter_140 rfl rfl ?_
    refine J_aload_n (i := 0) 143 dX9_winter_142 rfl rfl rfl ?_
    refine J_getI (jz := 2) (lo := 0) (hi := 6) 146 dX9_winter_143 rfl fX9_104 rfl rfl rfl rfl (fun b1 b2 => ?_)
    refine J_icmp_ge 233 149 dX9_winter_146 rfl rfl (fun c3 => ?_) (fun c3 => ?_)
    · exfalso; omega
    · refine J_aload_n (i := 0) 150 dX9_winter_149 rfl rfl rfl ?_
      refine J_getR 153 dX9_winter_150 rfl fX9_13 rfl rfl ?_
      refine J_iload 155 dX9_winter_153 rfl rfl ?_
      refine J_aload_n (i := 0) 156 dX9_winter_155 rfl rfl rfl ?_
      refine J_getR 159 dX9_winter_156 rfl fX9_34 rfl rfl ?_
      refine J_iload 161 dX9_winter_159 rfl rfl ?_
      refine J_iald (N := 6) (lo := 0) (hi := 2) 162 dX9_winter_161 rfl rfl rfl rfl (fun b4 b5 => ?_)
      refine J_iast (N := 6) (lo := 0) (hi := 2) 163 dX9_winter_162 rfl rfl rfl rfl ?_
      refine J_aload_n (i := 0) 164 dX9_winter_163 rfl rfl rfl ?_
      refine J_getR 167 dX9_winter_164 rfl fX9_16 rfl rfl ?_
      refine J_iload 169 dX9_winter_167 rfl rfl ?_
      refine J_aload_n (i := 0) 170 dX9_winter_169 rfl rfl rfl ?_
      refine J_getR 173 dX9_winter_170 rfl fX9_37 rfl rfl ?_
      refine J_iload 175 dX9_winter_173 rfl rfl ?_
      refine J_iald (N := 6) (lo := (-9)) (hi := 9) 176 dX9_winter_175 rfl rfl rfl rfl (fun b6 b7 => ?_)
      try simp +decide only [jup, ↓reduceIte] at b6 b7 ⊢
      refine J_iast (N := 6) (lo := 0) (hi := 9) 177 dX9_winter_176 rfl rfl rfl rfl ?_
      refine J_aload_n (i := 0) 178 dX9_winter_177 rfl rfl rfl ?_
      refine J_getR 181 dX9_winter_178 rfl fX9_19 rfl rfl ?_
      refine J_iload 183 dX9_winter_181 rfl rfl ?_
      refine J_aload_n (i := 0) 184 dX9_winter_183 rfl rfl rfl ?_
      refine J_getR 187 dX9_winter_184 rfl fX9_40 rfl rfl ?_
      refine J_iload 189 dX9_winter_187 rfl rfl ?_
      refine J_iald (N := 6) (lo := (-9)) (hi := 9) 190 dX9_winter_189 rfl rfl rfl rfl (fun b8 b9 => ?_)
      try simp +decide only [jup, ↓reduceIte] at b8 b9 ⊢
      refine J_iast (N := 6) (lo := 0) (hi := 9) 191 dX9_winter_190 rfl rfl rfl rfl ?_
      refine J_aload_n (i := 0) 192 dX9_winter_191 rfl rfl rfl ?_
      refine J_getR 195 dX9_winter_192 rfl fX9_22 rfl rfl ?_
      refine J_iload 197 dX9_winter_195 rfl rfl ?_
      refine J_aload_n (i := 0) 198 dX9_winter_197 rfl rfl rfl ?_
      refine J_getR 201 dX9_winter_198 rfl fX9_43 rfl rfl ?_
      refine J_iload 203 dX9_winter_201 rfl rfl ?_
      refine J_iald (N := 6) (lo := (-9)) (hi := 2) 204 dX9_winter_203 rfl rfl rfl rfl (fun b10 b11 => ?_)
      try simp +decide only [jup, ↓reduceIte] at b10 b11 ⊢
      refine J_iast (N := 6) (lo := 0) (hi := 2) 205 dX9_winter_204 rfl rfl rfl rfl ?_
      refine J_aload_n (i := 0) 206 dX9_winter_205 rfl rfl rfl ?_
      refine J_getR 209 dX9_winter_206 rfl fX9_25 rfl rfl ?_
      refine J_iload 211 dX9_winter_209 rfl rfl ?_
      refine J_aload_n (i := 0) 212 dX9_winter_211 rfl rfl rfl ?_
      refine J_getR 215 dX9_winter_212 rfl fX9_46 rfl rfl ?_
      refine J_iload 217 dX9_winter_215 rfl rfl ?_
      refine J_iald (N := 6) (lo := (-9)) (hi := 9) 218 dX9_winter_217 rfl rfl rfl rfl (fun b12 b13 => ?_)
      try simp +decide only [jup, ↓reduceIte] at b12 b13 ⊢
      refine J_iast (N := 6) (lo := 0) (hi := 9) 219 dX9_winter_218 rfl rfl rfl rfl ?_
      refine J_aload_n (i := 0) 220 dX9_winter_219 rfl rfl rfl ?_
      refine J_getR 223 dX9_winter_220 rfl fX9_28 rfl rfl ?_
      refine J_iload 225 dX9_winter_223 rfl rfl ?_
      refine J_iconst 226 dX9_winter_225 rfl ?_
      refine J_iast (N := 6) (lo := 0) (hi := 63) 227 dX9_winter_226 rfl rfl rfl rfl ?_
      refine J_iinc 230 dX9_winter_227 rfl (by decide) rfl ?_
      refine J_goto 140 dX9_winter_230 rfl ?_
      exact ih (p + 1) _ _ (by omega) (by omega) (wn_b hw (by omega))
set_option maxHeartbeats 4000000 in
theorem l_X9_winA {q : Int} (h23 : V 0 2 = 0 ∧ V 0 3 = 1) (hg5 : ∀ j, 0 ≤ j → j < V 0 1 → V 5 j < V 0 0) (hg : 1 ≤ V 0 0 ∧ V 0 0 ≤ 3) (hn : 1 ≤ V 0 1 ∧ V 0 1 ≤ 6) (hpos : ∀ r : Nat, 2 ≤ r → r ≤ 6 → ∀ j, 0 ≤ j → j < V 0 1 → 0 ≤ V r j) : ∀ (k p : Nat) (d : Int) (τ : jS), p + k = (V 0 0).toNat → d = p → wnS σ V d 0 τ → J P 5 (RX9, cX9_winter, 7, some .int) 108 [some (vr P 36), some (vi x), some (vi l), some (vi i), some (vi n), some (vi q), some (vi d)] [] τ (qi fun z σ' => V 0 1 = z ∧ wnQ σ V σ') := by
  intro k
  induction k with
  | zero =>
    intro p d τ hp hd hw
    have en := hw.2.1.1
    have ed : d = V 0 0 := by omega
    refine J_iload 110 dX9_winter_108 rfl rfl ?_
    refine J_aload_n (i := 0) 111 dX9_winter_110 rfl rfl rfl ?_
    refine J_getI (jz := 1) (lo := 0) (hi := 3) 114 dX9_winter_111 rfl fX9_111 rfl rfl rfl rfl (fun b1 b2 => ?_)
    refine J_icmp_ge 137 117 dX9_winter_114 rfl rfl (fun c3 => ?_) (fun c3 => ?_)
    · refine J_iconst 138 dX9_winter_137 rfl ?_
      refine J_istore 140 dX9_winter_138 rfl (by decide) ?_
      rw [ed] at hw
      exact l_X9_winB h23 hg5 hg.1 hn hpos _ 0 _ _ (Nat.zero_add _) rfl hw
    · exfalso; omega
  | succ k ih =>
    intro p d τ hp hd hw
    have en := hw.2.1.1
    refine J_iload 110 dX9_winter_108 rfl rfl ?_
    refine J_aload_n (i := 0) 111 dX9_winter_110 rfl rfl rfl ?_
    refine J_getI (jz := 1) (lo := 0) (hi := 3) 114 dX9_winter_111 rfl fX9_111 rfl rfl rfl rfl (fun b1 b2 => ?_)
    refine J_icmp_ge 137 117 dX9_winter_114 rfl rfl (fun c3 => ?_) (fun c3 => ?_)
    · exfalso; omega
    · refine J_aload_n (i := 0) 118 dX9_winter_117 rfl rfl rfl ?_
      refine J_getR 121 dX9_winter_118 rfl fX9_7 rfl rfl ?_
      refine J_iload 123 dX9_winter_121 rfl rfl ?_
      refine J_aload_n (i := 0) 124 dX9_winter_123 rfl rfl rfl ?_
      refine J_getR 127 dX9_winter_124 rfl fX9_31 rfl rfl ?_
      refine J_iload 129 dX9_winter_127 rfl rfl ?_
      refine J_iald (N := 3) (lo := 0) (hi := 9) 130 dX9_winter_129 rfl rfl rfl rfl (fun b4 b5 => ?_)
      refine J_iast (N := 3) (lo := 0) (hi := 9) 131 dX9_winter_130 rfl rfl rfl rfl ?_
      refine J_iinc 134 dX9_winter_131 rfl (by decide) rfl ?_
      refine J_goto 108 dX9_winter_134 rfl ?_
      exact ih (p + 1) _ _ (by omega) (by omega) (wn_a hw (by omega))
def eRWin (σ u : jS) (k l i n : Int) : Int := if ¬ (0 ≤ k ∧ k < 4) then -1 else if ¬ (0 ≤ l ∧ l ≤ 2) then -2 else if ¬ fR σ k l i n = 0 then -10 - fR σ k l i n else if ¬ readR (σ 63) (60 * k + i) (beginV u) n.toNat = -9 then -100 - readR (σ 63) (60 * k + i) (beginV u) n.toNat else (pE (σ 63) (60 * k + i) (beginV u) n.toNat).2.2 0 1
def sRWin (σ u : jS) (k l i n : Int) (σ' : jS) : Prop := if ¬ (0 ≤ k ∧ k < 4) then KR (jup σ 36 0 0) σ' else if ¬ (0 ≤ l ∧ l ≤ 2) then KR (jup σ 36 0 0) σ' else if ¬ fR σ k l i n = 0 then KR (jup σ 36 0 (fR σ k l i n)) σ' else if ¬ readR (σ 63) (60 * k + i) (beginV u) n.toNat = -9 then KR (jup σ 36 0 0) σ' else wnQ σ (pE (σ 63) (60 * k + i) (beginV u) n.toNat).2.2 σ'
theorem KR_RF {σ τ : jS} (h : RF σ τ) : KR (jup σ 36 0 0) (jup τ 36 0 0) := KR_f ⟨fun q hq => h.1 q (by omega) (by omega), fun j hj => h.2 j (by omega) (by omega) (by omega), fun j _ _ => by rw [h.1 37 (by omega) (by omega)], fun q a b j _ _ => by rw [h.1 q (by omega) (by omega)]⟩ 0
set_option maxHeartbeats 4000000 in
theorem c_X9_winter (hx : inR x) (hl : inR l) (hi : inR i) (hn : inR n) : Ct P 5 yX9_winter cX9_winter 7 (some .int) [vr P 36, vi x, vi l, vi i, vi n] σ (qi fun z σ' => eRWin σ u x l i n = z ∧ sRWin σ u x l i n σ') := by
  refine Ct.bd (fun hB => ?_)
  have hfb := fR_b σ x l i n
  have h61 : -1 ≤ σ 61 x ∧ σ 61 x ≤ 60 := hB 61 x
  have hf0 : fR σ x l i n = 0 → 0 ≤ i ∧ i + n ≤ σ 61 x ∧ 0 ≤ n := by
    intro h
    unfold fR at h
    repeat' split at h
    all_goals omega
  by_cases hz : fR σ x l i n = 0
  · have hz1 := hf0 hz
    obtain ⟨N, rfl⟩ : ∃ N : Nat, n = (N : Int) := ⟨n.toNat, by omega⟩
    refine Ct.of _ rfl rfl rfl (Nat.le_of_ble_eq_true rfl) (fun hB => ?_)
    refine J_iload_n (i := 1) 1 dX9_winter_0 rfl rfl rfl ?_
    refine J_callSi 4 dX9_winter_1 rfl kX9_146 mX9_noSheet (c_X9_noSheet) (by first | decide | omega) rfl rfl (Nat.le_of_ble_eq_true rfl) (fun z2 s3 h1 => ?_)
    obtain ⟨rfl, rfl⟩ := h1
    refine J_bif_eq 13 7 dX9_winter_4 rfl rfl (fun c4 => ?_) (fun c4 => ?_)
    · refine J_iload_n (i := 2) 14 dX9_winter_13 rfl rfl rfl ?_
      refine J_i2l 15 dX9_winter_14 rfl ?_
      refine J_lconst (z := 0) 16 dX9_winter_15 rfl rfl ?_
      refine J_ldc2 19 dX9_winter_16 rfl cstX9_153 ?_
      refine J_callSi 22 dX9_winter_19 rfl kX9_107 mX9_in (c_X9_in) (by first | decide | omega) rfl rfl (Nat.le_of_ble_eq_true rfl) (fun z6 s7 h5 => ?_)
      obtain ⟨rfl, rfl⟩ := h5
      refine J_bif_ne 32 25 dX9_winter_22 rfl rfl (fun c8 => ?_) (fun c8 => ?_)
      · refine J_aload_n (i := 0) 33 dX9_winter_32 rfl rfl rfl ?_
        refine J_iload_n (i := 1) 34 dX9_winter_33 rfl rfl rfl ?_
        refine J_iload_n (i := 2) 35 dX9_winter_34 rfl rfl rfl ?_
        refine J_iload_n (i := 3) 36 dX9_winter_35 rfl rfl rfl ?_
        refine J_iload 38 dX9_winter_36 rfl rfl ?_
        refine J_i2l 39 dX9_winter_38 rfl ?_
        refine J_callVi 42 dX9_winter_39 rfl kX9_155 mX9_cellsBarred rfl rfl rfl (c_X9_cellsBarred (by omega) (by omega) (by omega) (by omega)) (by first | decide | omega) rfl rfl (Nat.le_of_ble_eq_true rfl) (fun z10 s11 h9 => ?_)
        obtain ⟨rfl, rfl⟩ := h9
        refine J.st (if_pos hz) ?_
        refine J.top (if_pos hz) ?_
        refine J_istore 44 dX9_winter_42 rfl (by decide) ?_
        refine J_iload 46 dX9_winter_44 rfl rfl ?_
        refine J_if_ge 52 49 dX9_winter_46 rfl rfl (fun c12 => ?_) (fun c12 => ?_)
        · refine J_aload_n (i := 0) 53 dX9_winter_52 rfl rfl rfl ?_
          refine J_bipush 55 dX9_winter_53 rfl (by decide) ?_
          refine J_iload_n (i := 1) 56 dX9_winter_55 rfl rfl rfl ?_
          refine J_imul 57 dX9_winter_56 rfl ?_
          refine J_iload_n (i := 3) 58 dX9_winter_57 rfl rfl rfl ?_
          refine J_iadd 59 dX9_winter_58 rfl ?_
          refine J_iload 61 dX9_winter_59 rfl rfl ?_
          refine J_callVi 64 dX9_winter_61 rfl kX9_159 mX9_readsWinter rfl rfl rfl (c_X9_readsWinter (u := u) (N := N) (by omega) (by omega) rfl) (by first | decide | omega) rfl rfl (Nat.le_of_ble_eq_true rfl) (fun z14 s15 h13 => ?_)
          obtain ⟨hRF, hq⟩ := h13
          refine J.bd (fun hB2 => ?_)
          have hg13 := hB2 36 13
          have hg14 := hB2 36 14
          have hzz : z14 = 0 ∨ z14 = 1 := by { rcases hq with ⟨h, _⟩ | ⟨h, _⟩ <;> omega }
          have hzb : z14 = b01 (z14 = 1) := by { rcases hzz with h | h; { rw [b01_f (by omega)]; exact h }; { rw [b01_t h]; exact h } }
          refine J.top hzb ?_
          refine J_bif_ne 79 67 dX9_winter_64 rfl rfl (fun c16 => ?_) (fun c16 => ?_)
          · refine J_aload_n (i := 0) 80 dX9_winter_79 rfl rfl rfl ?_
            refine J_aload_n (i := 0) 81 dX9_winter_80 rfl rfl rfl ?_
            refine J_getI (jz := 13) (lo := 0) (hi := 3) 84 dX9_winter_81 rfl fX9_121 rfl rfl rfl rfl (fun b17 b18 => ?_)
            refine J_putI (jz := 1) (lo := 0) (hi := 3) 87 dX9_winter_84 rfl gX9_111 rfl rfl rfl rfl ?_
            refine J_aload_n (i := 0) 88 dX9_winter_87 rfl rfl rfl ?_
            refine J_aload_n (i := 0) 89 dX9_winter_88 rfl rfl rfl ?_
            refine J_getI (jz := 14) (lo := 0) (hi := 6) 92 dX9_winter_89 rfl fX9_128 rfl rfl rfl rfl (fun b19 b20 => ?_)
            refine J_putI (jz := 2) (lo := 0) (hi := 6) 95 dX9_winter_92 rfl gX9_104 rfl rfl rfl rfl ?_
            refine J_aload_n (i := 0) 96 dX9_winter_95 rfl rfl rfl ?_
            refine J_iconst 97 dX9_winter_96 rfl ?_
            refine J_putI (jz := 3) (lo := 0) (hi := 2) 100 dX9_winter_97 rfl gX9_162 rfl rfl rfl rfl ?_
            refine J_aload_n (i := 0) 101 dX9_winter_100 rfl rfl rfl ?_
            refine J_iconst 102 dX9_winter_101 rfl ?_
            refine J_putI (jz := 4) (lo := 0) (hi := 9) 105 dX9_winter_102 rfl gX9_165 rfl rfl rfl rfl ?_
            refine J_iconst 106 dX9_winter_105 rfl ?_
            refine J_istore 108 dX9_winter_106 rfl (by decide) ?_
            rcases hq with ⟨h1, h2, h3, h4, h5⟩ | ⟨h1, h2⟩
            · have hg14 : _ ∧ _ ≤ (6 : Int) := hg14
              have hg13 : _ ∧ _ ≤ (3 : Int) := hg13
              refine J.post (l_X9_winA (V := (pE (σ 63) (60 * x + i) (beginV u) N).2.2) (σ := σ) ⟨h3.2.2.1, h3.2.2.2.1⟩ (fun j a b => h3.2.2.2.2.2.2 j a (Or.inl b)) ⟨h5, by rw [h3.1]; exact hg13.2⟩ ⟨h4, by rw [h3.2.1]; exact hg14.2⟩ (fun r a b j c d => (h3.2.2.2.2.2.1 r a b j c (Or.inl d)).2) _ 0 _ _ (Nat.zero_add _) rfl ⟨fun q hq => ?_, ⟨h3.1.symm, h3.2.1.symm, rfl, rfl, ?_⟩, fun j a b => by omega, fun r a b j c d => by omega, fun j a b => by omega, h3.2.2.2.2.1, fun r a b j c d => ?_⟩) (fun r σ1 hq => ?_)
              · rw [jup_ne (by omega), jup_ne (by omega), jup_ne (by omega), jup_ne (by omega)]
                exact hRF.1 q (by omega) (by omega)
              · exact hRF.2 40 (by omega) (by omega) (by omega)
              · rw [jup_ne (by omega), jup_ne (by omega), jup_ne (by omega), jup_ne (by omega)]
                exact (h3.2.2.2.2.2.1 r a b j c (Or.inl d)).1
              · obtain ⟨z, hz, hq1, hq2⟩ := hq
                refine ⟨z, hz, ?_, ?_⟩
                · unfold eRWin
                  rw [Int.toNat_natCast, if_neg (by omega), if_neg (by omega), if_neg (by omega), if_neg (by omega)]
                  exact hq1
                · unfold sRWin
                  rw [Int.toNat_natCast, if_neg (by omega), if_neg (by omega), if_neg (by omega), if_neg (by omega)]
                  exact hq2
            · exfalso; omega
          · refine J_aload_n (i := 0) 68 dX9_winter_67 rfl rfl rfl ?_
            refine J_bipush 70 dX9_winter_68 rfl (by decide) ?_
            refine J_aload_n (i := 0) 71 dX9_winter_70 rfl rfl rfl ?_
            refine J_getI (jz := 12) (lo := 0) (hi := 60) 74 dX9_winter_71 rfl fX9_114 rfl rfl rfl rfl (fun b21 b22 => ?_)
            refine J_isub 75 dX9_winter_74 rfl ?_
            refine J_callVi 78 dX9_winter_75 rfl kX9_150 mX9_refused rfl rfl rfl (c_X9_refusedU) (by first | decide | omega) rfl rfl (Nat.le_of_ble_eq_true rfl) (fun z24 s25 h23 => ?_)
            obtain ⟨rfl, rfl⟩ := h23
            refine J_iret dX9_winter_78 rfl ?_
            rcases hq with ⟨h1, h2, h3, h4, h5⟩ | ⟨h1, h2⟩
            · exfalso; omega
            · refine ⟨?_, ?_⟩
              · unfold eRWin
                rw [Int.toNat_natCast, if_neg (by omega), if_neg (by omega), if_neg (by omega), if_pos (by omega), h2]
              · unfold sRWin
                rw [Int.toNat_natCast, if_neg (by omega), if_neg (by omega), if_neg (by omega), if_pos (by omega)]
                exact KR_RF hRF
        · exfalso; omega
      · refine J_aload_n (i := 0) 26 dX9_winter_25 rfl rfl rfl ?_
        refine J_bipush 28 dX9_winter_26 rfl (by decide) ?_
        refine J_callVi 31 dX9_winter_28 rfl kX9_150 mX9_refused rfl rfl rfl (c_X9_refusedU) (by first | decide | omega) rfl rfl (Nat.le_of_ble_eq_true rfl) (fun z27 s28 h26 => ?_)
        obtain ⟨rfl, rfl⟩ := h26
        refine J_iret dX9_winter_31 rfl ?_
        refine ⟨?_, ?_⟩
        · unfold eRWin; rw [if_neg (by omega), if_pos (by omega)]
        · unfold sRWin; rw [if_neg (by omega), if_pos (by omega)]; exact KR_refl _
    · refine J_aload_n (i := 0) 8 dX9_winter_7 rfl rfl rfl ?_
      refine J_iconst 9 dX9_winter_8 rfl ?_
      refine J_callVi 12 dX9_winter_9 rfl kX9_150 mX9_refused rfl rfl rfl (c_X9_refusedU) (by first | decide | omega) rfl rfl (Nat.le_of_ble_eq_true rfl) (fun z30 s31 h29 => ?_)
      obtain ⟨rfl, rfl⟩ := h29
      refine J_iret dX9_winter_12 rfl ?_
      refine ⟨?_, ?_⟩
      · unfold eRWin; rw [if_pos (by omega)]
      · unfold sRWin; rw [if_pos (by omega)]; exact KR_refl _
  · 
    refine Ct.of _ rfl rfl rfl (Nat.le_of_ble_eq_true rfl) (fun hB => ?_)
    refine J_iload_n (i := 1) 1 dX9_winter_0 rfl rfl rfl ?_
    refine J_callSi 4 dX9_winter_1 rfl kX9_146 mX9_noSheet (c_X9_noSheet) (by first | decide | omega) rfl rfl (Nat.le_of_ble_eq_true rfl) (fun z2 s3 h1 => ?_)
    obtain ⟨rfl, rfl⟩ := h1
    refine J_bif_eq 13 7 dX9_winter_4 rfl rfl (fun c4 => ?_) (fun c4 => ?_)
    · refine J_iload_n (i := 2) 14 dX9_winter_13 rfl rfl rfl ?_
      refine J_i2l 15 dX9_winter_14 rfl ?_
      refine J_lconst (z := 0) 16 dX9_winter_15 rfl rfl ?_
      refine J_ldc2 19 dX9_winter_16 rfl cstX9_153 ?_
      refine J_callSi 22 dX9_winter_19 rfl kX9_107 mX9_in (c_X9_in) (by first | decide | omega) rfl rfl (Nat.le_of_ble_eq_true rfl) (fun z6 s7 h5 => ?_)
      obtain ⟨rfl, rfl⟩ := h5
      refine J_bif_ne 32 25 dX9_winter_22 rfl rfl (fun c8 => ?_) (fun c8 => ?_)
      · refine J_aload_n (i := 0) 33 dX9_winter_32 rfl rfl rfl ?_
        refine J_iload_n (i := 1) 34 dX9_winter_33 rfl rfl rfl ?_
        refine J_iload_n (i := 2) 35 dX9_winter_34 rfl rfl rfl ?_
        refine J_iload_n (i := 3) 36 dX9_winter_35 rfl rfl rfl ?_
        refine J_iload 38 dX9_winter_36 rfl rfl ?_
        refine J_i2l 39 dX9_winter_38 rfl ?_
        refine J_callVi 42 dX9_winter_39 rfl kX9_155 mX9_cellsBarred rfl rfl rfl (c_X9_cellsBarred (by omega) (by omega) (by omega) (by omega)) (by first | decide | omega) rfl rfl (Nat.le_of_ble_eq_true rfl) (fun z10 s11 h9 => ?_)
        obtain ⟨rfl, rfl⟩ := h9
        refine J.st (if_neg hz) ?_
        refine J.top (if_neg hz) ?_
        refine J_istore 44 dX9_winter_42 rfl (by decide) ?_
        refine J_iload 46 dX9_winter_44 rfl rfl ?_
        refine J_if_ge 52 49 dX9_winter_46 rfl rfl (fun c12 => ?_) (fun c12 => ?_)
        · exfalso; omega
        · refine J_iload 51 dX9_winter_49 rfl rfl ?_
          refine J_iret dX9_winter_51 rfl ?_
          refine ⟨?_, ?_⟩
          · unfold eRWin
            first | rfl | (rw [if_pos (by omega)]; first | done | rfl) | (rw [if_neg (by omega)]; first | done | rfl) | (rw [if_neg (by omega), if_pos (by omega)]; first | done | rfl) | (rw [if_neg (by omega), if_neg (by omega)]; first | done | rfl) | (rw [if_neg (by omega), if_neg (by omega), if_pos (by omega)]; first | done | rfl) | (rw [if_neg (by omega), if_neg (by omega), if_neg (by omega)]; first | done | rfl) | (rw [if_neg (by omega), if_neg (by omega), if_neg (by omega), if_pos (by omega)]; first | done | rfl) | (rw [if_neg (by omega), if_neg (by omega), if_neg (by omega), if_neg (by omega)]; first | done | rfl) | (rw [if_neg (by omega), if_neg (by omega), if_neg (by omega), if_neg (by omega), if_pos (by omega)]; first | done | rfl) | (rw [if_neg (by omega), if_neg (by omega), if_neg (by omega), if_neg (by omega), if_neg (by omega)]; first | done | rfl)
          · unfold sRWin
            first | (rw [if_pos (by omega)]; exact KR_refl _) | (rw [if_neg (by omega), if_pos (by omega)]; exact KR_refl _) | (rw [if_neg (by omega), if_neg (by omega), if_pos (by omega)]; exact KR_refl _)
      · refine J_aload_n (i := 0) 26 dX9_winter_25 rfl rfl rfl ?_
        refine J_bipush 28 dX9_winter_26 rfl (by decide) ?_
        refine J_callVi 31 dX9_winter_28 rfl kX9_150 mX9_refused rfl rfl rfl (c_X9_refused) (by first | decide | omega) rfl rfl (Nat.le_of_ble_eq_true rfl) (fun z14 s15 h13 => ?_)
        obtain ⟨rfl, rfl⟩ := h13
        refine J_iret dX9_winter_31 rfl ?_
        refine ⟨?_, ?_⟩
        · unfold eRWin
          first | rfl | (rw [if_pos (by omega)]; first | done | rfl) | (rw [if_neg (by omega)]; first | done | rfl) | (rw [if_neg (by omega), if_pos (by omega)]; first | done | rfl) | (rw [if_neg (by omega), if_neg (by omega)]; first | done | rfl) | (rw [if_neg (by omega), if_neg (by omega), if_pos (by omega)]; first | done | rfl) | (rw [if_neg (by omega), if_neg (by omega), if_neg (by omega)]; first | done | rfl) | (rw [if_neg (by omega), if_neg (by omega), if_neg (by omega), if_pos (by omega)]; first | done | rfl) | (rw [if_neg (by omega), if_neg (by omega), if_neg (by omega), if_neg (by omega)]; first | done | rfl) | (rw [if_neg (by omega), if_neg (by omega), if_neg (by omega), if_neg (by omega), if_pos (by omega)]; first | done | rfl) | (rw [if_neg (by omega), if_neg (by omega), if_neg (by omega), if_neg (by omega), if_neg (by omega)]; first | done | rfl)
        · unfold sRWin
          first | (rw [if_pos (by omega)]; exact KR_refl _) | (rw [if_neg (by omega), if_pos (by omega)]; exact KR_refl _) | (rw [if_neg (by omega), if_neg (by omega), if_pos (by omega)]; exact KR_refl _)
    · refine J_aload_n (i := 0) 8 dX9_winter_7 rfl rfl rfl ?_
      refine J_iconst 9 dX9_winter_8 rfl ?_
      refine J_callVi 12 dX9_winter_9 rfl kX9_150 mX9_refused rfl rfl rfl (c_X9_refused) (by first | decide | omega) rfl rfl (Nat.le_of_ble_eq_true rfl) (fun z17 s18 h16 => ?_)
      obtain ⟨rfl, rfl⟩ := h16
      refine J_iret dX9_winter_12 rfl ?_
      refine ⟨?_, ?_⟩
      · unfold eRWin
        first | rfl | (rw [if_pos (by omega)]; first | done | rfl) | (rw [if_neg (by omega)]; first | done | rfl) | (rw [if_neg (by omega), if_pos (by omega)]; first | done | rfl) | (rw [if_neg (by omega), if_neg (by omega)]; first | done | rfl) | (rw [if_neg (by omega), if_neg (by omega), if_pos (by omega)]; first | done | rfl) | (rw [if_neg (by omega), if_neg (by omega), if_neg (by omega)]; first | done | rfl) | (rw [if_neg (by omega), if_neg (by omega), if_neg (by omega), if_pos (by omega)]; first | done | rfl) | (rw [if_neg (by omega), if_neg (by omega), if_neg (by omega), if_neg (by omega)]; first | done | rfl) | (rw [if_neg (by omega), if_neg (by omega), if_neg (by omega), if_neg (by omega), if_pos (by omega)]; first | done | rfl) | (rw [if_neg (by omega), if_neg (by omega), if_neg (by omega), if_neg (by omega), if_neg (by omega)]; first | done | rfl)
      · unfold sRWin
        first | (rw [if_pos (by omega)]; exact KR_refl _) | (rw [if_neg (by omega), if_pos (by omega)]; exact KR_refl _) | (rw [if_neg (by omega), if_neg (by omega), if_pos (by omega)]; exact KR_refl _)
end

