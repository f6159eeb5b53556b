/-! ===== days ===== -/
def pairF (f : Int → Int) (i : Int) (p : Nat) : Bool := decide (0 ≤ f (i + 2 * p) ∧ f (i + 2 * p) ≤ mostM (f (i + 2 * p + 1)))
def toldN (f : Int → Int) (i : Int) : Nat → Bool
  | 0 => true
  | p + 1 => toldN f i p && pairF f i p
theorem told_no {f : Int → Int} {i : Int} {p : Nat} (h : ¬ pairF f i p = true) : ∀ n, p < n → ¬ toldN f i n = true := by
  intro n
  induction n with
  | zero => intro h; omega
  | succ n ih =>
    intro hn
    simp only [toldN, Bool.and_eq_true]
    by_cases e : p = n
    · subst e; exact fun q => h q.2
    · exact fun q => ih (by omega) q.1
theorem told_all {f : Int → Int} {i : Int} : ∀ n, toldN f i n = true → ∀ p, p < n → pairF f i p = true := by
  intro n
  induction n with
  | zero => intro _ p h; omega
  | succ n ih =>
    intro h p hp
    simp only [toldN, Bool.and_eq_true] at h
    by_cases e : p = n
    · rw [e]; exact h.2
    · exact ih h.1 p (by omega)
/-- a day's acts: the first wrong one (-9: none), the winter then -/
def dayN (f : Int → Int) (i : Int) (v : jS) : Nat → Int × jS
  | 0 => (-9, v)
  | p + 1 => if ¬ (dayN f i v p).1 = -9 then dayN f i v p else if actOK (dayN f i v p).2 (f (i + 2 * p + 1)) (f (i + 2 * p)) = true then (-9, jup (dayN f i v p).2 (actI (f (i + 2 * p + 1))) (actJ (f (i + 2 * p + 1))) (f (i + 2 * p))) else ((p : Int), (dayN f i v p).2)
theorem dayN_stop {f : Int → Int} {i : Int} {v : jS} {p : Nat} (h : ¬ (dayN f i v p).1 = -9) : ∀ n, p ≤ n → dayN f i v n = dayN f i v p := by
  intro n
  induction n with
  | zero => intro hn; rw [show p = 0 by omega]
  | succ n ih =>
    intro hn
    by_cases e : p = n + 1
    · rw [e]
    · have h2 := ih (by omega)
      simp only [dayN]
      rw [h2, if_pos h]
theorem mostM_b {a x : Int} (h : 0 ≤ x ∧ x ≤ mostM a) : 0 ≤ a ∧ a ≤ 16 := by
  unfold mostM at h
  by_cases h1 : a < 0 ∨ 17 ≤ a
  · rw [if_pos h1] at h; omega
  · omega
theorem actI_b (a : Int) : actI a ≤ 6 := by
  unfold actI
  split
  · omega
  · split
    · omega
    · split <;> omega
section
variable {P : jP} {w o : Nat} {a b c d g x y z n s i j k l : Int} {σ τ v : jS}
set_option maxHeartbeats 8000000 in
theorem l_X8_arePairsAsTold (hw : w = 28 ∨ w = 30 ∨ w = 32 ∨ w = 34) {N : Nat} (hi : 0 ≤ i ∧ i + 2 * N ≤ 60) : ∀ (k p : Nat) (d : Int), p + k = N → d = p → toldN (σ (w + 1)) i p = true → J P 2 (RX8, cX8_arePairsAsTold, 5, some .boolean) 2 [some (vr P w), some (vi i), some (vi (N : Int)), some (vi d), none] [] σ (rI (b01 (toldN (σ (w + 1)) i N = true)) σ) := by
  intro k
  induction k with
  | zero =>
    intro p d hp hd ht
    rcases hw with rfl | rfl | rfl | rfl <;> (
      refine J_iload_n (i := 3) 3 dX8_arePairsAsTold_2 rfl rfl rfl ?_
      refine J_iload_n (i := 2) 4 dX8_arePairsAsTold_3 rfl rfl rfl ?_
      refine J_icmp_ge 52 7 dX8_arePairsAsTold_4 rfl rfl (fun c1 => ?_) (fun c1 => ?_)
      · refine J_iconst 53 dX8_arePairsAsTold_52 rfl ?_
        refine J_zret dX8_arePairsAsTold_53 rfl ?_
        refine ⟨b01_t ?_, rfl⟩
        rw [← hp]
        exact ht
      · exfalso; omega
    )
  | succ k ih =>
    intro p d hp hd ht
    refine J.bd (fun hB => ?_)
    have hlb := len_b hB hw
    have hc1 := hlb.2.2 (i + 2 * d)
    have hc2 := hlb.2.2 (i + 2 * d + 1)
    have hmb : -1 ≤ mostM (σ (w + 1) (i + 2 * d + 1)) ∧ mostM (σ (w + 1) (i + 2 * d + 1)) ≤ 9 := by
      unfold mostM
      split
      · omega
      · split
        · omega
        · split <;> omega
    have hpf : pairF (σ (w + 1)) i p = true ↔ (0 ≤ σ (w + 1) (i + 2 * d) ∧ σ (w + 1) (i + 2 * d) ≤ mostM (σ (w + 1) (i + 2 * d + 1))) := by
      rw [hd]
      exact decide_eq_true_iff
    have hbad : ¬ (0 ≤ σ (w + 1) (i + 2 * d) ∧ σ (w + 1) (i + 2 * d) ≤ mostM (σ (w + 1) (i + 2 * d + 1))) → ¬ toldN (σ (w + 1)) i N = true := fun h => told_no (fun q => h (hpf.mp q)) N (by omega)
    have hgood : (0 ≤ σ (w + 1) (i + 2 * d) ∧ σ (w + 1) (i + 2 * d) ≤ mostM (σ (w + 1) (i + 2 * d + 1))) → toldN (σ (w + 1)) i (p + 1) = true := fun h => by
      simp only [toldN, Bool.and_eq_true]
      exact ⟨ht, hpf.mpr h⟩
    rcases hw with rfl | rfl | rfl | rfl <;> (
      simp only [Nat.reduceAdd] at hc1 hc2 hmb hbad hgood
      refine J_iload_n (i := 3) 3 dX8_arePairsAsTold_2 rfl rfl rfl ?_
      refine J_iload_n (i := 2) 4 dX8_arePairsAsTold_3 rfl rfl rfl ?_
      refine J_icmp_ge 52 7 dX8_arePairsAsTold_4 rfl rfl (fun c1 => ?_) (fun c1 => ?_)
      · exfalso; omega
      · refine J_aload_n (i := 0) 8 dX8_arePairsAsTold_7 rfl rfl rfl ?_
        refine J_getR 11 dX8_arePairsAsTold_8 rfl fX8_270 rfl rfl ?_
        refine J_iload_n (i := 1) 12 dX8_arePairsAsTold_11 rfl rfl rfl ?_
        refine J_iconst 13 dX8_arePairsAsTold_12 rfl ?_
        refine J_iload_n (i := 3) 14 dX8_arePairsAsTold_13 rfl rfl rfl ?_
        refine J_imul 15 dX8_arePairsAsTold_14 rfl ?_
        refine J_iadd 16 dX8_arePairsAsTold_15 rfl ?_
        refine J_iald (N := 60) (lo := (-2147483648)) (hi := 2147483647) 17 dX8_arePairsAsTold_16 rfl rfl rfl rfl (fun b2 b3 => ?_)
        refine J_istore 19 dX8_arePairsAsTold_17 rfl (by decide) ?_
        refine J_iload 21 dX8_arePairsAsTold_19 rfl rfl ?_
        refine J_if_lt 44 24 dX8_arePairsAsTold_21 rfl rfl (fun c4 => ?_) (fun c4 => ?_)
        · refine J_iconst 45 dX8_arePairsAsTold_44 rfl ?_
          refine J_zret dX8_arePairsAsTold_45 rfl ?_
          exact ⟨b01_f (hbad (by omega)), rfl⟩
        · refine J_iload 26 dX8_arePairsAsTold_24 rfl rfl ?_
          refine J_aload_n (i := 0) 27 dX8_arePairsAsTold_26 rfl rfl rfl ?_
          refine J_getR 30 dX8_arePairsAsTold_27 rfl fX8_270 rfl rfl ?_
          refine J_iload_n (i := 1) 31 dX8_arePairsAsTold_30 rfl rfl rfl ?_
          refine J_iconst 32 dX8_arePairsAsTold_31 rfl ?_
          refine J_iload_n (i := 3) 33 dX8_arePairsAsTold_32 rfl rfl rfl ?_
          refine J_imul 34 dX8_arePairsAsTold_33 rfl ?_
          refine J_iadd 35 dX8_arePairsAsTold_34 rfl ?_
          refine J_iconst 36 dX8_arePairsAsTold_35 rfl ?_
          refine J_iadd 37 dX8_arePairsAsTold_36 rfl ?_
          refine J_iald (N := 60) (lo := (-2147483648)) (hi := 2147483647) 38 dX8_arePairsAsTold_37 rfl rfl rfl rfl (fun b5 b6 => ?_)
          refine J_callSi 41 dX8_arePairsAsTold_38 rfl kX8_303 mX7_mostToldWith (c_X7_mostToldWith) (by first | decide | omega) rfl rfl (Nat.le_of_ble_eq_true rfl) (fun z8 s9 h7 => ?_)
          obtain ⟨rfl, rfl⟩ := h7
          refine J_icmp_le 46 44 dX8_arePairsAsTold_41 rfl rfl (fun c10 => ?_) (fun c10 => ?_)
          · refine J_iinc 49 dX8_arePairsAsTold_46 rfl (by decide) rfl ?_
            refine J_goto 2 dX8_arePairsAsTold_49 rfl ?_
            exact J.wk (ih (p + 1) (d + 1) (by omega) (by omega) (hgood (by omega))) ⟨rfl, rfl, rfl, rfl, trivial⟩
          · refine J_iconst 45 dX8_arePairsAsTold_44 rfl ?_
            refine J_zret dX8_arePairsAsTold_45 rfl ?_
            exact ⟨b01_f (hbad (by omega)), rfl⟩
    )
theorem c_X8_arePairsAsTold (hw : w = 28 ∨ w = 30 ∨ w = 32 ∨ w = 34) {N : Nat} (hi : 0 ≤ i ∧ i + 2 * N ≤ 60) : Ct P 2 yX8_arePairsAsTold cX8_arePairsAsTold 5 (some .boolean) [vr P w, vi i, vi (N : Int)] σ (rI (b01 (toldN (σ (w + 1)) i N = true)) σ) := by
  have hw' := hw
  rcases hw with rfl | rfl | rfl | rfl <;> (
    refine Ct.of _ rfl rfl rfl (Nat.le_of_ble_eq_true rfl) (fun hB => ?_)
    refine J_iconst 1 dX8_arePairsAsTold_0 rfl ?_
    refine J_istore_n (i := 3) 2 dX8_arePairsAsTold_1 rfl rfl (by decide) ?_
    exact l_X8_arePairsAsTold hw' hi N 0 _ (Nat.zero_add _) rfl rfl
  )
def dayQ (σ : jS) (S : Int × jS) (z : Int) (σ' : jS) : Prop := S.1 = z ∧ vC σ' 8 = S.2 ∧ F8 σ σ'
set_option maxHeartbeats 8000000 in
theorem l_X8_playDay (hw : w = 28 ∨ w = 30 ∨ w = 32 ∨ w = 34) {N : Nat} (hi : 0 ≤ i ∧ i + 2 * N ≤ 60) (hN : toldN (σ (w + 1)) i N = true) : ∀ (k p : Nat) (d : Int) (τ : jS), p + k = N → d = p → (dayN (σ (w + 1)) i (vC σ 1) p).1 = -9 → vC τ 8 = (dayN (σ (w + 1)) i (vC σ 1) p).2 → F8 σ τ → J P 4 (RX8, cX8_playDay, 5, some .int) 14 [some (vr P 0), some (vr P w), some (vi i), some (vi (N : Int)), some (vi d)] [] τ (qi (dayQ σ (dayN (σ (w + 1)) i (vC σ 1) N))) := by
  intro k
  induction k with
  | zero =>
    intro p d τ hp hd h1 h2 hF
    rw [Nat.add_zero] at hp
    subst hp
    rcases hw with rfl | rfl | rfl | rfl <;> (
      refine J_iload 16 dX8_playDay_14 rfl rfl ?_
      refine J_iload_n (i := 3) 17 dX8_playDay_16 rfl rfl rfl ?_
      refine J_icmp_ge 63 20 dX8_playDay_17 rfl rfl (fun c1 => ?_) (fun c1 => ?_)
      · refine J_bipush 65 dX8_playDay_63 rfl (by decide) ?_
        refine J_iret dX8_playDay_65 rfl ?_
        exact ⟨h1, h2, hF⟩
      · exfalso; omega
    )
  | succ k ih =>
    intro p d τ hp hd h1 h2 hF
    have hrow : τ (w + 1) = σ (w + 1) := hF (w + 1) (by omega)
    have hpair : 0 ≤ τ (w + 1) (i + 2 * d) ∧ τ (w + 1) (i + 2 * d) ≤ mostM (τ (w + 1) (i + 2 * d + 1)) := by
      have := told_all N hN p (by omega)
      rw [hrow, hd]
      exact decide_eq_true_iff.mp this
    have hact := mostM_b hpair
    have hstep : dayN (σ (w + 1)) i (vC σ 1) (p + 1) = if actOK (vC τ 8) (τ (w + 1) (i + 2 * d + 1)) (τ (w + 1) (i + 2 * d)) = true then (-9, jup (vC τ 8) (actI (τ (w + 1) (i + 2 * d + 1))) (actJ (τ (w + 1) (i + 2 * d + 1))) (τ (w + 1) (i + 2 * d))) else ((p : Int), vC τ 8) := by
      simp only [dayN]
      rw [if_neg (by omega), hrow, hd, h2]
    have hgood : actOK (vC τ 8) (τ (w + 1) (i + 2 * d + 1)) (τ (w + 1) (i + 2 * d)) = true → (dayN (σ (w + 1)) i (vC σ 1) (p + 1)).1 = -9 ∧ vC (actS τ 8 (τ (w + 1) (i + 2 * d + 1)) (τ (w + 1) (i + 2 * d))) 8 = (dayN (σ (w + 1)) i (vC σ 1) (p + 1)).2 ∧ F8 σ (actS τ 8 (τ (w + 1) (i + 2 * d + 1)) (τ (w + 1) (i + 2 * d))) := by
      intro h
      rw [hstep, if_pos h]
      unfold actS
      rw [if_pos h]
      refine ⟨rfl, vC_up _ _ _ _ _ (actI_b _), fun q hq => ?_⟩
      rw [← hF q hq]
      funext j
      have := actI_b (τ (w + 1) (i + 2 * d + 1))
      unfold jup
      rw [if_neg (by omega)]
    have hbad : ¬ actOK (vC τ 8) (τ (w + 1) (i + 2 * d + 1)) (τ (w + 1) (i + 2 * d)) = true → dayQ σ (dayN (σ (w + 1)) i (vC σ 1) N) d (actS τ 8 (τ (w + 1) (i + 2 * d + 1)) (τ (w + 1) (i + 2 * d))) := by
      intro h
      have hs2 := hstep
      rw [if_neg h] at hs2
      have hne : ¬ (dayN (σ (w + 1)) i (vC σ 1) (p + 1)).1 = -9 := by rw [hs2]; show ¬ (p : Int) = -9; omega
      rw [dayN_stop hne N (by omega), hs2]
      unfold actS
      rw [if_neg h]
      exact ⟨hd.symm, rfl, hF⟩
    rcases hw with rfl | rfl | rfl | rfl <;> (
      simp only [Nat.reduceAdd] at hpair hact hgood hbad
      refine J_iload 16 dX8_playDay_14 rfl rfl ?_
      refine J_iload_n (i := 3) 17 dX8_playDay_16 rfl rfl rfl ?_
      refine J_icmp_ge 63 20 dX8_playDay_17 rfl rfl (fun c1 => ?_) (fun c1 => ?_)
      · exfalso; omega
      · refine J_aload_n (i := 0) 21 dX8_playDay_20 rfl rfl rfl ?_
        refine J_getR 24 dX8_playDay_21 rfl fX8_18 rfl rfl ?_
        refine J_aload_n (i := 1) 25 dX8_playDay_24 rfl rfl rfl ?_
        refine J_getR 28 dX8_playDay_25 rfl fX8_270 rfl rfl ?_
        refine J_iload_n (i := 2) 29 dX8_playDay_28 rfl rfl rfl ?_
        refine J_iconst 30 dX8_playDay_29 rfl ?_
        refine J_iload 32 dX8_playDay_30 rfl rfl ?_
        refine J_imul 33 dX8_playDay_32 rfl ?_
        refine J_iadd 34 dX8_playDay_33 rfl ?_
        refine J_iconst 35 dX8_playDay_34 rfl ?_
        refine J_iadd 36 dX8_playDay_35 rfl ?_
        refine J_iald (N := 60) (lo := (-2147483648)) (hi := 2147483647) 37 dX8_playDay_36 rfl rfl rfl rfl (fun b2 b3 => ?_)
        refine J_aload_n (i := 1) 38 dX8_playDay_37 rfl rfl rfl ?_
        refine J_getR 41 dX8_playDay_38 rfl fX8_270 rfl rfl ?_
        refine J_iload_n (i := 2) 42 dX8_playDay_41 rfl rfl rfl ?_
        refine J_iconst 43 dX8_playDay_42 rfl ?_
        refine J_iload 45 dX8_playDay_43 rfl rfl ?_
        refine J_imul 46 dX8_playDay_45 rfl ?_
        refine J_iadd 47 dX8_playDay_46 rfl ?_
        refine J_iald (N := 60) (lo := (-2147483648)) (hi := 2147483647) 48 dX8_playDay_47 rfl rfl rfl rfl (fun b4 b5 => ?_)
        refine J_callVi 51 dX8_playDay_48 rfl kX8_306 mX7_perform rfl rfl rfl (c_X7_perform (hx := hpair)) (by first | decide | omega) rfl rfl (Nat.le_of_ble_eq_true rfl) (fun z7 s8 h6 => ?_)
        obtain ⟨rfl, rfl⟩ := h6
        refine J_bif_ne 57 54 dX8_playDay_51 rfl rfl (fun c9 => ?_) (fun c9 => ?_)
        · obtain ⟨g1, g2, g3⟩ := hgood (by assumption)
          refine J_iinc 60 dX8_playDay_57 rfl (by decide) rfl ?_
          refine J_goto 14 dX8_playDay_60 rfl ?_
          exact ih (p + 1) _ _ (by omega) (by omega) g1 g2 g3
        · refine J_iload 56 dX8_playDay_54 rfl rfl ?_
          refine J_iret dX8_playDay_56 rfl ?_
          exact hbad (by assumption)
    )
theorem c_X8_playDay (hw : w = 28 ∨ w = 30 ∨ w = 32 ∨ w = 34) {N : Nat} (hi : 0 ≤ i ∧ i + 2 * N ≤ 60) (hN : toldN (σ (w + 1)) i N = true) : Ct P 4 yX8_playDay cX8_playDay 5 (some .int) [vr P 0, vr P w, vi i, vi (N : Int)] σ (qi (dayQ σ (dayN (σ (w + 1)) i (vC σ 1) N))) := by
  have hw' := hw
  have hmain := l_X8_playDay (P := P) (σ := σ) hw hi hN N 0 0 (jbec σ 8 1) (Nat.zero_add _) rfl rfl (vC_bec σ 8 1) (F8_bec σ)
  rcases hw with rfl | rfl | rfl | rfl <;> (
    refine Ct.of _ rfl rfl rfl (Nat.le_of_ble_eq_true rfl) (fun hB => ?_)
    refine J_aload_n (i := 0) 1 dX8_playDay_0 rfl rfl rfl ?_
    refine J_getR 4 dX8_playDay_1 rfl fX8_18 rfl rfl ?_
    refine J_aload_n (i := 0) 5 dX8_playDay_4 rfl rfl rfl ?_
    refine J_getR 8 dX8_playDay_5 rfl fX8_14 rfl rfl ?_
    refine J_callVv 11 dX8_playDay_8 rfl kX8_96 mX7_become rfl rfl rfl (c_X7_become) (by first | decide | omega) rfl rfl (Nat.le_of_ble_eq_true rfl) (fun s3 h1 => ?_)
    obtain rfl := h1
    refine J_iconst 12 dX8_playDay_11 rfl ?_
    refine J_istore 14 dX8_playDay_12 rfl (by decide) ?_
    exact hmain
  )
def askM (v : jS) (x : Int) : Int := if x = 0 then sumN (eaterF v) (nM v) else if x = 2 then starvM v else if x = 3 then sumN (leftM v) (gM v) else if x = 4 then sumN (lookM v) (nM v) else if 0 ≤ x - 10 ∧ x - 10 < v 0 1 then eatsM v (x - 10) else -9
theorem c_X8_ofDayPlayed (hx : (0 ≤ x ∧ x ≤ 4 ∧ ¬ x = 1) ∨ (10 ≤ x ∧ x < 16) := by omega) : Ct P 5 yX8_ofDayPlayed cX8_ofDayPlayed 2 (some .int) [vr P 0, vi x] σ (rI (askM (vC σ 8) x) σ) := by
  have e : askM (vC σ 8) x = if x = 0 then sumN (eaterF (vC σ 8)) (nM (vC σ 8)) else if x = 2 then starvM (vC σ 8) else if x = 3 then sumN (leftM (vC σ 8)) (gM (vC σ 8)) else if x = 4 then sumN (lookM (vC σ 8)) (nM (vC σ 8)) else if 0 ≤ x - 10 ∧ x - 10 < σ 8 1 then eatsM (vC σ 8) (x - 10) else -9 := rfl
  rw [e]
  refine Ct.of _ rfl rfl rfl (Nat.le_of_ble_eq_true rfl) (fun hB => ?_)
  refine J_iload_n (i := 1) 1 dX8_ofDayPlayed_0 rfl rfl rfl ?_
  rcases (show x = 0 ∨ x = 2 ∨ x = 3 ∨ x = 4 ∨ (10 ≤ x ∧ x < 16) by omega) with rfl | rfl | rfl | rfl | hx2
  · refine J_tableIn 36 dX8_ofDayPlayed_1 rfl rfl ?_
    refine J_aload_n (i := 0) 37 dX8_ofDayPlayed_36 rfl rfl rfl ?_
    refine J_getR 40 dX8_ofDayPlayed_37 rfl fX8_18 rfl rfl ?_
    refine J_callVi 43 dX8_ofDayPlayed_40 rfl kX8_309 mX7_eaters rfl rfl rfl (c_X7_eaters) (by first | decide | omega) rfl rfl (Nat.le_of_ble_eq_true rfl) (fun z2 s3 h1 => ?_)
    obtain ⟨rfl, rfl⟩ := h1
    refine J_iret dX8_ofDayPlayed_43 rfl ?_
    first | exact ⟨rfl, rfl⟩ | (refine ⟨?_, rfl⟩; rw [if_neg (by omega), if_neg (by omega), if_neg (by omega), if_neg (by omega)]; first | (rw [if_pos (by omega)]; done) | (rw [if_neg (by omega)]; done))
  · refine J_tableIn 44 dX8_ofDayPlayed_1 rfl rfl ?_
    refine J_aload_n (i := 0) 45 dX8_ofDayPlayed_44 rfl rfl rfl ?_
    refine J_getR 48 dX8_ofDayPlayed_45 rfl fX8_18 rfl rfl ?_
    refine J_callVi 51 dX8_ofDayPlayed_48 rfl kX8_134 mX7_starving rfl rfl rfl (c_X7_starving) (by first | decide | omega) rfl rfl (Nat.le_of_ble_eq_true rfl) (fun z5 s6 h4 => ?_)
    obtain ⟨rfl, rfl⟩ := h4
    refine J_iret dX8_ofDayPlayed_51 rfl ?_
    first | exact ⟨rfl, rfl⟩ | (refine ⟨?_, rfl⟩; rw [if_neg (by omega), if_neg (by omega), if_neg (by omega), if_neg (by omega)]; first | (rw [if_pos (by omega)]; done) | (rw [if_neg (by omega)]; done))
  · refine J_tableIn 52 dX8_ofDayPlayed_1 rfl rfl ?_
    refine J_aload_n (i := 0) 53 dX8_ofDayPlayed_52 rfl rfl rfl ?_
    refine J_getR 56 dX8_ofDayPlayed_53 rfl fX8_18 rfl rfl ?_
    refine J_callVi 59 dX8_ofDayPlayed_56 rfl kX8_312 mX7_allLeft rfl rfl rfl (c_X7_allLeft) (by first | decide | omega) rfl rfl (Nat.le_of_ble_eq_true rfl) (fun z8 s9 h7 => ?_)
    obtain ⟨rfl, rfl⟩ := h7
    refine J_iret dX8_ofDayPlayed_59 rfl ?_
    first | exact ⟨rfl, rfl⟩ | (refine ⟨?_, rfl⟩; rw [if_neg (by omega), if_neg (by omega), if_neg (by omega), if_neg (by omega)]; first | (rw [if_pos (by omega)]; done) | (rw [if_neg (by omega)]; done))
  · refine J_tableIn 60 dX8_ofDayPlayed_1 rfl rfl ?_
    refine J_aload_n (i := 0) 61 dX8_ofDayPlayed_60 rfl rfl rfl ?_
    refine J_getR 64 dX8_ofDayPlayed_61 rfl fX8_18 rfl rfl ?_
    refine J_callVi 67 dX8_ofDayPlayed_64 rfl kX8_315 mX7_allLooks rfl rfl rfl (c_X7_allLooks) (by first | decide | omega) rfl rfl (Nat.le_of_ble_eq_true rfl) (fun z11 s12 h10 => ?_)
    obtain ⟨rfl, rfl⟩ := h10
    refine J_iret dX8_ofDayPlayed_67 rfl ?_
    first | exact ⟨rfl, rfl⟩ | (refine ⟨?_, rfl⟩; rw [if_neg (by omega), if_neg (by omega), if_neg (by omega), if_neg (by omega)]; first | (rw [if_pos (by omega)]; done) | (rw [if_neg (by omega)]; done))
  · refine J_tableOut 68 dX8_ofDayPlayed_1 rfl ?_
    refine J_aload_n (i := 0) 69 dX8_ofDayPlayed_68 rfl rfl rfl ?_
    refine J_getR 72 dX8_ofDayPlayed_69 rfl fX8_18 rfl rfl ?_
    refine J_iload_n (i := 1) 73 dX8_ofDayPlayed_72 rfl rfl rfl ?_
    refine J_bipush 75 dX8_ofDayPlayed_73 rfl (by decide) ?_
    refine J_isub 76 dX8_ofDayPlayed_75 rfl ?_
    refine J_callVi 79 dX8_ofDayPlayed_76 rfl kX8_109 mX7_hasComer rfl rfl rfl (c_X7_hasComer) (by first | decide | omega) rfl rfl (Nat.le_of_ble_eq_true rfl) (fun z14 s15 h13 => ?_)
    obtain ⟨rfl, rfl⟩ := h13
    refine J_bif_eq 96 82 dX8_ofDayPlayed_79 rfl rfl (fun c16 => ?_) (fun c16 => ?_)
    · refine J_bipush 98 dX8_ofDayPlayed_96 rfl (by decide) ?_
      refine J_iret dX8_ofDayPlayed_98 rfl ?_
      first | exact ⟨rfl, rfl⟩ | (refine ⟨?_, rfl⟩; rw [if_neg (by omega), if_neg (by omega), if_neg (by omega), if_neg (by omega)]; first | (rw [if_pos (by omega)]; done) | (rw [if_neg (by omega)]; done))
    · refine J_aload_n (i := 0) 83 dX8_ofDayPlayed_82 rfl rfl rfl ?_
      refine J_getR 86 dX8_ofDayPlayed_83 rfl fX8_18 rfl rfl ?_
      refine J_iload_n (i := 1) 87 dX8_ofDayPlayed_86 rfl rfl rfl ?_
      refine J_bipush 89 dX8_ofDayPlayed_87 rfl (by decide) ?_
      refine J_isub 90 dX8_ofDayPlayed_89 rfl ?_
      refine J_callVi 93 dX8_ofDayPlayed_90 rfl kX8_131 mX7_eats rfl rfl rfl (c_X7_eats) (by first | decide | omega) rfl rfl (Nat.le_of_ble_eq_true rfl) (fun z18 s19 h17 => ?_)
      obtain ⟨rfl, rfl⟩ := h17
      refine J_goto 98 dX8_ofDayPlayed_93 rfl ?_
      refine J_iret dX8_ofDayPlayed_98 rfl ?_
      first | exact ⟨rfl, rfl⟩ | (refine ⟨?_, rfl⟩; rw [if_neg (by omega), if_neg (by omega), if_neg (by omega), if_neg (by omega)]; first | (rw [if_pos (by omega)]; done) | (rw [if_neg (by omega)]; done))
def aDay (σ : jS) (v : jS) (w : Nat) (k l i n x : Int) : Int := if ¬ (0 ≤ k ∧ k < 4) then -1 else if ¬ ((0 ≤ l ∧ l ≤ 2) ∧ (0 ≤ n ∧ n ≤ 20) ∧ ((0 ≤ x ∧ x ≤ 4) ∨ (10 ≤ x ∧ x < 16))) then -2 else if ¬ 0 < v 0 1 then -3 else if ¬ faultM (σ w 1) (σ w 2) l i (2 * n) = 0 then -10 - faultM (σ w 1) (σ w 2) l i (2 * n) else if ¬ toldN (σ (w + 1)) i n.toNat = true then -2 else if x = 1 then (dayN (σ (w + 1)) i v n.toNat).1 else if (dayN (σ (w + 1)) i v n.toNat).1 = -9 then askM (dayN (σ (w + 1)) i v n.toNat).2 x else -100 - (dayN (σ (w + 1)) i v n.toNat).1
def fDay (σ : jS) (v : jS) (w : Nat) (k l i n x : Int) : Int := if ¬ (0 ≤ k ∧ k < 4) then 0 else if ¬ ((0 ≤ l ∧ l ≤ 2) ∧ (0 ≤ n ∧ n ≤ 20) ∧ ((0 ≤ x ∧ x ≤ 4) ∨ (10 ≤ x ∧ x < 16))) then 0 else if ¬ 0 < v 0 1 then 0 else faultM (σ w 1) (σ w 2) l i (2 * n)
theorem dayN_b (f : Int → Int) (i : Int) (v : jS) (p : Nat) : -9 ≤ (dayN f i v p).1 ∧ (dayN f i v p).1 ≤ p := by
  induction p with
  | zero => simp [dayN]
  | succ p ih =>
    simp only [dayN]
    split
    · omega
    · split
      · exact ⟨by show (-9 : Int) ≤ -9; omega, by show (-9 : Int) ≤ _; omega⟩
      · exact ⟨by show (-9 : Int) ≤ p; omega, by show (p : Int) ≤ _; omega⟩
set_option maxHeartbeats 8000000 in
theorem c_X8_day (hw : w = sc x) (hx : inR x) (hl : inR l) (hi : inR i) (hn : inR n) (hy : inR y) : Ct P 6 yX8_day cX8_day 9 (some .int) [vr P 0, vi x, vi l, vi i, vi n, vi y] σ (qi fun z σ' => aDay σ (vC σ 1) w x l i n y = z ∧ F8 (jup σ 0 10 (fDay σ (vC σ 1) w x l i n y)) σ') := by
  refine Ct.bd (fun hB => ?_)
  have hfb := faultM_b (σ w 1) (σ w 2) l i (2 * n)
  have hf0 := faultM_0 (sl := σ w 1) (len := σ w 2) (l := l) (i := i) (n := 2 * n)
  have e1 : vC (jup σ 0 10 0) 1 = vC σ 1 := vC_up_ne _ _ _ _ _ (by omega)
  have en : vC σ 1 0 1 = σ 1 1 := rfl
  by_cases hx4 : 0 ≤ x ∧ x < 4
  · have hlb := len_b hB (w := w) (by unfold sc at hw; omega)
    have hw4 : w = 28 ∨ w = 30 ∨ w = 32 ∨ w = 34 := by unfold sc at hw; omega
    by_cases hn0 : 0 ≤ n ∧ n ≤ 20
    · obtain ⟨N, rfl⟩ : ∃ N : Nat, n = (N : Int) := ⟨n.toNat, by omega⟩
      have eN : ((N : Int)).toNat = N := Int.toNat_natCast N
      have ew : (jup σ 0 10 0) (w + 1) = σ (w + 1) := by funext q; unfold jup; rw [if_neg (by omega)]
      have hdb := dayN_b (σ (w + 1)) i (vC σ 1) N
      have hfz : faultM (σ w 1) (σ w 2) l i (2 * (N : Int)) = 0 → jup σ 0 10 (faultM (σ w 1) (σ w 2) l i (2 * (N : Int))) = jup σ 0 10 0 := fun h => by rw [h]
      unfold aDay fDay
      rw [eN, en]
      rcases sc4 hw hx4 with ⟨rfl, rfl⟩ | ⟨rfl, rfl⟩ | ⟨rfl, rfl⟩ | ⟨rfl, rfl⟩ <;> (
        simp only [Nat.reduceAdd] at ew hdb ⊢
        refine Ct.of _ rfl rfl rfl (Nat.le_of_ble_eq_true rfl) (fun hB => ?_)
        refine J.guard (fun Q0 hQ0 => ?_)
        refine J_aload_n (i := 0) 1 dX8_day_0 rfl rfl rfl ?_
        refine J_iconst 2 dX8_day_1 rfl ?_
        refine J_putI (jz := 10) (lo := 0) (hi := 4) 5 dX8_day_2 rfl gX8_74 rfl rfl rfl rfl ?_
        refine J_iload_n (i := 1) 6 dX8_day_5 rfl rfl rfl ?_
        refine J_callSi 9 dX8_day_6 rfl kX8_77 mX8_isSheet (c_X8_isSheet) (by first | decide | omega) rfl rfl (Nat.le_of_ble_eq_true rfl) (fun z2 s3 h1 => ?_)
        obtain ⟨rfl, rfl⟩ := h1
        refine J_bif_ne 14 12 dX8_day_9 rfl rfl (fun c4 => ?_) (fun c4 => ?_)
        · refine J_iload_n (i := 2) 15 dX8_day_14 rfl rfl rfl ?_
          refine J_callSi 18 dX8_day_15 rfl kX8_81 mX8_isLane (c_X8_isLane) (by first | decide | omega) rfl rfl (Nat.le_of_ble_eq_true rfl) (fun z6 s7 h5 => ?_)
          obtain ⟨rfl, rfl⟩ := h5
          refine J_bif_eq 41 21 dX8_day_18 rfl rfl (fun c8 => ?_) (fun c8 => ?_)
          · refine J_bipush 43 dX8_day_41 rfl (by decide) ?_
            subst hQ0
            refine J_iret dX8_day_43 rfl ?_
            refine ⟨?_, ?_⟩
            · rw [if_neg (by omega), if_pos (by omega)]
            · rw [if_neg (by omega), if_pos (by omega)]
              exact fun _ _ => rfl
          · refine J_iload 23 dX8_day_21 rfl rfl ?_
            refine J_if_lt 41 26 dX8_day_23 rfl rfl (fun c9 => ?_) (fun c9 => ?_)
            · refine J_bipush 43 dX8_day_41 rfl (by decide) ?_
              subst hQ0
              refine J_iret dX8_day_43 rfl ?_
              refine ⟨?_, ?_⟩
              · rw [if_neg (by omega), if_pos (by omega)]
              · rw [if_neg (by omega), if_pos (by omega)]
                exact fun _ _ => rfl
            · refine J_iload 28 dX8_day_26 rfl rfl ?_
              refine J_bipush 30 dX8_day_28 rfl (by decide) ?_
              refine J_icmp_gt 41 33 dX8_day_30 rfl rfl (fun c10 => ?_) (fun c10 => ?_)
              · refine J_bipush 43 dX8_day_41 rfl (by decide) ?_
                subst hQ0
                refine J_iret dX8_day_43 rfl ?_
                refine ⟨?_, ?_⟩
                · rw [if_neg (by omega), if_pos (by omega)]
                · rw [if_neg (by omega), if_pos (by omega)]
                  exact fun _ _ => rfl
              · refine J_iload 35 dX8_day_33 rfl rfl ?_
                refine J_callSi 38 dX8_day_35 rfl kX8_172 mX8_isAskedOfDay (c_X8_isAskedOfDay) (by first | decide | omega) rfl rfl (Nat.le_of_ble_eq_true rfl) (fun z12 s13 h11 => ?_)
                obtain ⟨rfl, rfl⟩ := h11
                refine J_bif_ne 44 41 dX8_day_38 rfl rfl (fun c14 => ?_) (fun c14 => ?_)
                · refine J_aload_n (i := 0) 45 dX8_day_44 rfl rfl rfl ?_
                  refine J_getR 48 dX8_day_45 rfl fX8_14 rfl rfl ?_
                  refine J_callVi 51 dX8_day_48 rfl kX8_162 mX7_stands rfl rfl rfl (c_X7_stands) (by first | decide | omega) rfl rfl (Nat.le_of_ble_eq_true rfl) (fun z16 s17 h15 => ?_)
                  obtain ⟨rfl, rfl⟩ := h15
                  refine J.top (e' := b01 (0 < σ 1 1)) rfl ?_
                  refine J_bif_ne 57 54 dX8_day_51 rfl rfl (fun c18 => ?_) (fun c18 => ?_)
                  · refine J_aload_n (i := 0) 58 dX8_day_57 rfl rfl rfl ?_
                    refine J_getR 61 dX8_day_58 rfl fX8_66 rfl rfl ?_
                    refine J_iload_n (i := 1) 62 dX8_day_61 rfl rfl rfl ?_
                    refine J_aald 63 dX8_day_62 rfl ?_
                    try simp only [Int.reduceToNat, Nat.reduceMul, Nat.reduceAdd]
                    refine J_astore 65 dX8_day_63 rfl (by decide) ?_
                    refine J_aload 67 dX8_day_65 rfl rfl ?_
                    refine J_iload_n (i := 2) 68 dX8_day_67 rfl rfl rfl ?_
                    refine J_iload_n (i := 3) 69 dX8_day_68 rfl rfl rfl ?_
                    refine J_iconst 70 dX8_day_69 rfl ?_
                    refine J_iload 72 dX8_day_70 rfl rfl ?_
                    refine J_imul 73 dX8_day_72 rfl ?_
                    refine J_callVi 76 dX8_day_73 rfl kX8_84 mX5_faultAs rfl rfl rfl (c_X5_faultAs) (by first | decide | omega) rfl rfl (Nat.le_of_ble_eq_true rfl) (fun z20 s21 h19 => ?_)
                    obtain ⟨rfl, rfl⟩ := h19
                    refine J.top (e' := faultM (σ _ 1) (σ _ 2) l i (2 * (N : Int))) rfl ?_
                    refine J_istore 78 dX8_day_76 rfl (by decide) ?_
                    refine J_iload 80 dX8_day_78 rfl rfl ?_
                    refine J_if_eq 90 83 dX8_day_80 rfl rfl (fun c22 => ?_) (fun c22 => ?_)
                    · have hf1 := hf0 (by omega)
                      refine J_aload 92 dX8_day_90 rfl rfl ?_
                      refine J_iload_n (i := 3) 93 dX8_day_92 rfl rfl rfl ?_
                      refine J_iload 95 dX8_day_93 rfl rfl ?_
                      refine J_callSi 98 dX8_day_95 rfl kX8_175 mX8_arePairsAsTold (c_X8_arePairsAsTold (N := N) (i := i) (by omega) (by omega)) (by first | decide | omega) rfl rfl (Nat.le_of_ble_eq_true rfl) (fun z24 s25 h23 => ?_)
                      obtain ⟨rfl, rfl⟩ := h23
                      rw [ew]
                      refine J_bif_ne 104 101 dX8_day_98 rfl rfl (fun c26 => ?_) (fun c26 => ?_)
                      · refine J_aload_n (i := 0) 105 dX8_day_104 rfl rfl rfl ?_
                        refine J_aload 107 dX8_day_105 rfl rfl ?_
                        refine J_iload_n (i := 3) 108 dX8_day_107 rfl rfl rfl ?_
                        refine J_iload 110 dX8_day_108 rfl rfl ?_
                        refine J_callVi 113 dX8_day_110 rfl kX8_179 mX8_playDay rfl rfl rfl (c_X8_playDay (N := N) (i := i) (by omega) (by omega) (by rw [ew]; assumption)) (by first | decide | omega) rfl rfl (Nat.le_of_ble_eq_true rfl) (fun z28 s29 h27 => ?_)
                        obtain ⟨q1, q2, q3⟩ := h27
                        rw [ew, e1] at q1 q2
                        subst q1
                        refine J_istore 115 dX8_day_113 rfl (by decide) ?_
                        refine J_iload 117 dX8_day_115 rfl rfl ?_
                        refine J_iconst 118 dX8_day_117 rfl ?_
                        refine J_icmp_ne 124 121 dX8_day_118 rfl rfl (fun c30 => ?_) (fun c30 => ?_)
                        · refine J_iload 126 dX8_day_124 rfl rfl ?_
                          refine J_bipush 128 dX8_day_126 rfl (by decide) ?_
                          refine J_icmp_ne 140 131 dX8_day_128 rfl rfl (fun c31 => ?_) (fun c31 => ?_)
                          · refine J_bipush 142 dX8_day_140 rfl (by decide) ?_
                            refine J_iload 144 dX8_day_142 rfl rfl ?_
                            refine J_isub 145 dX8_day_144 rfl ?_
                            subst hQ0
                            refine J_iret dX8_day_145 rfl ?_
                            refine ⟨?_, ?_⟩
                            · rw [if_neg (by omega), if_neg (by omega), if_neg (by omega), if_neg (by omega), if_neg (fun hno => hno (by assumption))]
                              first | (rw [if_pos (by omega)]; done) | (rw [if_neg (by omega), if_pos (by omega)]; done) | (rw [if_neg (by omega), if_neg (by omega)]; done)
                            · rw [if_neg (by omega), if_neg (by omega), if_neg (by omega), hfz (by omega)]
                              exact q3
                          · refine J_aload_n (i := 0) 132 dX8_day_131 rfl rfl rfl ?_
                            refine J_iload 134 dX8_day_132 rfl rfl ?_
                            refine J_callVi 137 dX8_day_134 rfl kX8_183 mX8_ofDayPlayed rfl rfl rfl (c_X8_ofDayPlayed) (by first | decide | omega) rfl rfl (Nat.le_of_ble_eq_true rfl) (fun z33 s34 h32 => ?_)
                            obtain ⟨rfl, rfl⟩ := h32
                            rw [q2]
                            refine J_goto 145 dX8_day_137 rfl ?_
                            subst hQ0
                            refine J_iret dX8_day_145 rfl ?_
                            refine ⟨?_, ?_⟩
                            · rw [if_neg (by omega), if_neg (by omega), if_neg (by omega), if_neg (by omega), if_neg (fun hno => hno (by assumption))]
                              first | (rw [if_pos (by omega)]; done) | (rw [if_neg (by omega), if_pos (by omega)]; done) | (rw [if_neg (by omega), if_neg (by omega)]; done)
                            · rw [if_neg (by omega), if_neg (by omega), if_neg (by omega), hfz (by omega)]
                              exact q3
                        · refine J_iload 123 dX8_day_121 rfl rfl ?_
                          subst hQ0
                          refine J_iret dX8_day_123 rfl ?_
                          refine ⟨?_, ?_⟩
                          · rw [if_neg (by omega), if_neg (by omega), if_neg (by omega), if_neg (by omega), if_neg (fun hno => hno (by assumption))]
                            first | (rw [if_pos (by omega)]; done) | (rw [if_neg (by omega), if_pos (by omega)]; done) | (rw [if_neg (by omega), if_neg (by omega)]; done)
                          · rw [if_neg (by omega), if_neg (by omega), if_neg (by omega), hfz (by omega)]
                            exact q3
                      · refine J_bipush 103 dX8_day_101 rfl (by decide) ?_
                        subst hQ0
                        refine J_iret dX8_day_103 rfl ?_
                        refine ⟨?_, ?_⟩
                        · rw [if_neg (by omega), if_neg (by omega), if_neg (by omega), if_neg (by omega), if_pos (by assumption)]
                        · rw [if_neg (by omega), if_neg (by omega), if_neg (by omega), hfz (by omega)]
                          exact fun _ _ => rfl
                    · refine J_aload_n (i := 0) 84 dX8_day_83 rfl rfl rfl ?_
                      refine J_iload 86 dX8_day_84 rfl rfl ?_
                      refine J_callVi 89 dX8_day_86 rfl kX8_88 mX8_faulted rfl rfl rfl (c_X8_faulted) (by first | decide | omega) rfl rfl (Nat.le_of_ble_eq_true rfl) (fun z36 s37 h35 => ?_)
                      obtain ⟨rfl, rfl⟩ := h35
                      subst hQ0
                      refine J_iret dX8_day_89 rfl ?_
                      refine ⟨?_, ?_⟩
                      · rw [if_neg (by omega), if_neg (by omega), if_neg (by omega), if_pos (by omega)]
                      · rw [if_neg (by omega), if_neg (by omega), if_neg (by omega), jup_jup]
                        exact fun _ _ => rfl
                  · refine J_bipush 56 dX8_day_54 rfl (by decide) ?_
                    subst hQ0
                    refine J_iret dX8_day_56 rfl ?_
                    refine ⟨?_, ?_⟩
                    · rw [if_neg (by omega), if_neg (by omega), if_pos (by omega)]
                    · rw [if_neg (by omega), if_neg (by omega), if_pos (by omega)]
                      exact fun _ _ => rfl
                · refine J_bipush 43 dX8_day_41 rfl (by decide) ?_
                  subst hQ0
                  refine J_iret dX8_day_43 rfl ?_
                  refine ⟨?_, ?_⟩
                  · rw [if_neg (by omega), if_pos (by omega)]
                  · rw [if_neg (by omega), if_pos (by omega)]
                    exact fun _ _ => rfl
        · subst hQ0
          exfalso; omega
      )
    · unfold aDay fDay
      rcases sc4 hw hx4 with ⟨rfl, rfl⟩ | ⟨rfl, rfl⟩ | ⟨rfl, rfl⟩ | ⟨rfl, rfl⟩ <;> (
        refine Ct.of _ rfl rfl rfl (Nat.le_of_ble_eq_true rfl) (fun hB => ?_)
        refine J.guard (fun Q0 hQ0 => ?_)
        refine J_aload_n (i := 0) 1 dX8_day_0 rfl rfl rfl ?_
        refine J_iconst 2 dX8_day_1 rfl ?_
        refine J_putI (jz := 10) (lo := 0) (hi := 4) 5 dX8_day_2 rfl gX8_74 rfl rfl rfl rfl ?_
        refine J_iload_n (i := 1) 6 dX8_day_5 rfl rfl rfl ?_
        refine J_callSi 9 dX8_day_6 rfl kX8_77 mX8_isSheet (c_X8_isSheet) (by first | decide | omega) rfl rfl (Nat.le_of_ble_eq_true rfl) (fun z2 s3 h1 => ?_)
        obtain ⟨rfl, rfl⟩ := h1
        refine J_bif_ne 14 12 dX8_day_9 rfl rfl (fun c4 => ?_) (fun c4 => ?_)
        · refine J_iload_n (i := 2) 15 dX8_day_14 rfl rfl rfl ?_
          refine J_callSi 18 dX8_day_15 rfl kX8_81 mX8_isLane (c_X8_isLane) (by first | decide | omega) rfl rfl (Nat.le_of_ble_eq_true rfl) (fun z6 s7 h5 => ?_)
          obtain ⟨rfl, rfl⟩ := h5
          refine J_bif_eq 41 21 dX8_day_18 rfl rfl (fun c8 => ?_) (fun c8 => ?_)
          · refine J_bipush 43 dX8_day_41 rfl (by decide) ?_
            subst hQ0
            refine J_iret dX8_day_43 rfl ?_
            refine ⟨?_, ?_⟩
            · rw [if_neg (by omega), if_pos (by omega)]
            · rw [if_neg (by omega), if_pos (by omega)]
              exact fun _ _ => rfl
          · refine J_iload 23 dX8_day_21 rfl rfl ?_
            refine J_if_lt 41 26 dX8_day_23 rfl rfl (fun c9 => ?_) (fun c9 => ?_)
            · refine J_bipush 43 dX8_day_41 rfl (by decide) ?_
              subst hQ0
              refine J_iret dX8_day_43 rfl ?_
              refine ⟨?_, ?_⟩
              · rw [if_neg (by omega), if_pos (by omega)]
              · rw [if_neg (by omega), if_pos (by omega)]
                exact fun _ _ => rfl
            · refine J_iload 28 dX8_day_26 rfl rfl ?_
              refine J_bipush 30 dX8_day_28 rfl (by decide) ?_
              refine J_icmp_gt 41 33 dX8_day_30 rfl rfl (fun c10 => ?_) (fun c10 => ?_)
              · refine J_bipush 43 dX8_day_41 rfl (by decide) ?_
                subst hQ0
                refine J_iret dX8_day_43 rfl ?_
                refine ⟨?_, ?_⟩
                · rw [if_neg (by omega), if_pos (by omega)]
                · rw [if_neg (by omega), if_pos (by omega)]
                  exact fun _ _ => rfl
              · subst hQ0
                exfalso; omega
        · subst hQ0
          exfalso; omega
      )
  · unfold aDay fDay
    refine Ct.of _ rfl rfl rfl (Nat.le_of_ble_eq_true rfl) (fun hB => ?_)
    refine J_aload_n (i := 0) 1 dX8_day_0 rfl rfl rfl ?_
    refine J_iconst 2 dX8_day_1 rfl ?_
    refine J_putI (jz := 10) (lo := 0) (hi := 4) 5 dX8_day_2 rfl gX8_74 rfl rfl rfl rfl ?_
    refine J_iload_n (i := 1) 6 dX8_day_5 rfl rfl rfl ?_
    refine J_callSi 9 dX8_day_6 rfl kX8_77 mX8_isSheet (c_X8_isSheet) (by first | decide | omega) rfl rfl (Nat.le_of_ble_eq_true rfl) (fun z2 s3 h1 => ?_)
    obtain ⟨rfl, rfl⟩ := h1
    refine J_bif_ne 14 12 dX8_day_9 rfl rfl (fun c4 => ?_) (fun c4 => ?_)
    · exfalso; omega
    · refine J_iconst 13 dX8_day_12 rfl ?_
      refine J_iret dX8_day_13 rfl ?_
      refine ⟨if_pos (by omega), ?_⟩
      rw [if_pos (by omega)]
      exact fun _ _ => rfl
end

