/-! ===== the reference: winters that follow ===== -/
theorem passF_eq {v : jS} (hv : wvB v) (d : Int) : passF v d = v 4 d + (if 0 < v 3 d ∧ eatsM v d = 0 ∧ v 4 d < 9 then 1 else if 0 < v 3 d ∧ 0 < eatsM v d ∧ 0 < v 4 d then -1 else 0) := by
  have h4 := hv.2.2.2.2.2.2.2.1 d
  have h3 := hv.2.2.2.2.2.2.1 d
  have he := eatsM_b hv d
  unfold passF
  have ho : outM v d = true ↔ 0 < v 3 d ∧ eatsM v d = 0 := by unfold outM; exact decide_eq_true_iff
  by_cases e : 0 < v 3 d ∧ eatsM v d = 0
  · rw [if_pos (ho.mpr e)]
    by_cases e9 : v 4 d + 1 < 9
    · rw [if_pos e9, if_pos (by omega)]
    · rw [if_neg e9]
      by_cases e8 : v 4 d < 9
      · rw [if_pos (by omega)]; omega
      · rw [if_neg (by omega), if_neg (by omega)]; omega
  · rw [if_neg (fun h => e (ho.mp h))]
    by_cases e3 : 0 < v 3 d
    · rw [if_pos e3]
      by_cases e0 : 0 < v 4 d - 1
      · rw [if_pos e0, if_neg (by omega), if_pos (by omega)]; omega
      · rw [if_neg e0]
        by_cases e1 : 0 < v 4 d
        · rw [if_neg (by omega), if_pos (by omega)]; omega
        · rw [if_neg (by omega), if_neg (by omega)]; omega
    · rw [if_neg e3, if_neg (by omega), if_neg (by omega)]; omega
def wiI (σ : jS) (i : Nat) (τ : jS) : Prop := τ 40 = passN (vR σ) i ∧ (∀ q, q ≠ 40 → q ≠ 50 → q ≠ 51 → q ≠ 52 → τ q = σ q) ∧ ∀ j, 0 ≤ j → j < σ 36 2 → τ 50 j = eatsM (vR σ) j
def wiQ (σ σ' : jS) : Prop := vR σ' = passV (vR σ) ∧ ∀ q, q ≠ 40 → q ≠ 50 → q ≠ 51 → q ≠ 52 → σ' q = σ q
theorem wi_up {σ τ : jS} {i : Nat} {d z : Int} (h : wiI σ i τ) (hd : d = i) (hz : z = passF (vR σ) d) : wiI σ (i + 1) (jup τ 40 d z) := by
  obtain ⟨h1, h2, h3⟩ := h
  refine ⟨?_, fun q a b c e => (jup_ne a).trans (h2 q a b c e), h3⟩
  funext j
  by_cases e : j = d
  · rw [e, jup_at]
    unfold passN
    rw [if_pos (by omega)]
    exact hz
  · rw [jup_ne2 e, h1]
    unfold passN
    by_cases e2 : 0 ≤ j ∧ j < (i : Int)
    · rw [if_pos e2, if_pos (by omega)]
    · rw [if_neg e2, if_neg (by omega)]
theorem vR_wi {σ τ : jS} {i : Nat} (h : wiI σ i τ) (hi : i = nM (vR σ)) : wiQ σ τ := by
  obtain ⟨h1, h2, h3⟩ := h
  refine ⟨?_, h2⟩
  subst hi
  funext k j
  unfold passV jset
  by_cases e : k = 4
  · subst e
    rw [if_pos rfl, ← h1]
    rfl
  · rw [if_neg e]
    unfold vR
    by_cases e0 : k = 0
    · rw [if_pos e0, if_pos e0, h2 36 (by omega) (by omega) (by omega) (by omega)]
    · rw [if_neg e0, if_neg e0]
      by_cases e6 : k ≤ 6
      · rw [if_pos e6, if_pos e6, h2 (36 + k) (by omega) (by omega) (by omega) (by omega)]
      · rw [if_neg e6, if_neg e6]
theorem okG_wi {σ τ : jS} (h : wiQ σ τ) (hok : okG σ) : okG τ := okG_of hok (by rw [h.2 36 (by omega) (by omega) (by omega) (by omega)]) (by rw [h.2 36 (by omega) (by omega) (by omega) (by omega)]) (h.2 41 (by omega) (by omega) (by omega) (by omega))
theorem BDY_wi {σ τ : jS} (h : wiQ σ τ) : BDY σ τ := ⟨fun q hq => h.2 q (by omega) (by omega) (by omega) (by omega), fun j _ _ _ => by rw [h.2 36 (by omega) (by omega) (by omega) (by omega)]⟩
def dnN (p : Nat → Bool) : Nat → Int → Int
  | 0, r => r
  | i + 1, r => dnN p i (if p i = true then (i : Int) else r)
theorem dnN_eq (p : Nat → Bool) : ∀ (n : Nat) (r : Int), dnN p n r = if leastN p n < n then (leastN p n : Int) else r := by
  intro n
  induction n with
  | zero => intro r; rfl
  | succ n ih =>
    intro r
    have hle := leastN_le p n
    simp only [dnN]
    rw [ih]
    by_cases h : leastN p n < n
    · have e : leastN p (n + 1) = leastN p n := by simp only [leastN]; rw [if_pos h]
      rw [e, if_pos h, if_pos (by omega)]
    · by_cases hp : p n = true
      · have e : leastN p (n + 1) = n := by simp only [leastN]; rw [if_neg h, if_pos hp]
        rw [e, if_neg h, if_pos hp, if_pos (by omega)]
      · have e : leastN p (n + 1) = n + 1 := by simp only [leastN]; rw [if_neg h, if_neg hp]
        rw [e, if_neg h, if_neg hp, if_neg (by omega)]
section
variable {P : jP} {w o : Nat} {a b c d g x y z n s i j k l : Int} {σ τ v : jS}
set_option maxHeartbeats 4000000 in
theorem l_X9_wintersOn (hvB : wvB (vR σ)) (hn : 0 ≤ σ 36 2 ∧ σ 36 2 ≤ 6) : ∀ (k i : Nat) (d : Int) (τ : jS), i + k = nM (vR σ) → d = i → wiI σ i τ → J P 5 (RX9, cX9_wintersOn, 4, none) 6 [some (vr P 36), some (vi d), none, none] [] τ (qv (wiQ σ)) := by
  intro k
  induction k with
  | zero =>
    intro i d τ hi hd hr
    have e2 : nM (vR σ) = (σ 36 2).toNat := rfl
    have en : τ 36 2 = σ 36 2 := by rw [hr.2.1 36 (by omega) (by omega) (by omega) (by omega)]
    refine J_iload_n (i := 1) 7 dX9_wintersOn_6 rfl rfl rfl ?_
    refine J_aload_n (i := 0) 8 dX9_wintersOn_7 rfl rfl rfl ?_
    refine J_getI (jz := 2) (lo := 0) (hi := 6) 11 dX9_wintersOn_8 rfl fX9_104 rfl rfl rfl rfl (fun b1 b2 => ?_)
    refine J_icmp_ge 104 14 dX9_wintersOn_11 rfl rfl (fun c3 => ?_) (fun c3 => ?_)
    · refine J_vret dX9_wintersOn_104 rfl ?_
      exact vR_wi hr (by omega)
    · exfalso; omega
  | succ k ih =>
    intro i d τ hi hd hr
    have e2 : nM (vR σ) = (σ 36 2).toNat := rfl
    have en : τ 36 2 = σ 36 2 := by rw [hr.2.1 36 (by omega) (by omega) (by omega) (by omega)]
    have e39 : τ 39 d = vR σ 3 d := by rw [hr.2.1 39 (by omega) (by omega) (by omega) (by omega)]; rfl
    have e50 : τ 50 d = eatsM (vR σ) d := hr.2.2 d (by omega) (by omega)
    have e40 : τ 40 d = vR σ 4 d := by rw [hr.1]; unfold passN; rw [if_neg (by omega)]
    have h4 := hvB.2.2.2.2.2.2.2.1 d
    have h3 := hvB.2.2.2.2.2.2.1 d
    have he := eatsM_b hvB d
    have hpe := passF_eq hvB d
    refine J_iload_n (i := 1) 7 dX9_wintersOn_6 rfl rfl rfl ?_
    refine J_aload_n (i := 0) 8 dX9_wintersOn_7 rfl rfl rfl ?_
    refine J_getI (jz := 2) (lo := 0) (hi := 6) 11 dX9_wintersOn_8 rfl fX9_104 rfl rfl rfl rfl (fun b1 b2 => ?_)
    refine J_icmp_ge 104 14 dX9_wintersOn_11 rfl rfl (fun c3 => ?_) (fun c3 => ?_)
    · exfalso; omega
    · refine J_aload_n (i := 0) 15 dX9_wintersOn_14 rfl rfl rfl ?_
      refine J_getR 18 dX9_wintersOn_15 rfl fX9_16 rfl rfl ?_
      refine J_iload_n (i := 1) 19 dX9_wintersOn_18 rfl rfl rfl ?_
      refine J_iald (N := 6) (lo := 0) (hi := 9) 20 dX9_wintersOn_19 rfl rfl rfl rfl (fun b4 b5 => ?_)
      refine J_if_le 45 23 dX9_wintersOn_20 rfl rfl (fun c6 => ?_) (fun c6 => ?_)
      · refine J_iconst 46 dX9_wintersOn_45 rfl ?_
        refine J_istore_n (i := 2) 47 dX9_wintersOn_46 rfl rfl (by decide) ?_
        refine J_aload_n (i := 0) 48 dX9_wintersOn_47 rfl rfl rfl ?_
        refine J_iload_n (i := 1) 49 dX9_wintersOn_48 rfl rfl rfl ?_
        refine J_callVi 52 dX9_wintersOn_49 rfl kX9_177 mX9_goesWithout rfl rfl rfl (c_X9_goesWithout) (by first | decide | omega) rfl rfl (Nat.le_of_ble_eq_true rfl) (fun z8 s9 h7 => ?_)
        obtain ⟨rfl, rfl⟩ := h7
        refine J_bif_eq 70 55 dX9_wintersOn_52 rfl rfl (fun c10 => ?_) (fun c10 => ?_)
        · refine J_iconst 71 dX9_wintersOn_70 rfl ?_
          refine J_istore_n (i := 3) 72 dX9_wintersOn_71 rfl rfl (by decide) ?_
          refine J_aload_n (i := 0) 73 dX9_wintersOn_72 rfl rfl rfl ?_
          refine J_getR 76 dX9_wintersOn_73 rfl fX9_19 rfl rfl ?_
          refine J_iload_n (i := 1) 77 dX9_wintersOn_76 rfl rfl rfl ?_
          refine J_dup2 78 dX9_wintersOn_77 rfl rfl rfl ?_
          refine J_iald (N := 6) (lo := 0) (hi := 9) 79 dX9_wintersOn_78 rfl rfl rfl rfl (fun b11 b12 => ?_)
          refine J_iload_n (i := 3) 80 dX9_wintersOn_79 rfl rfl rfl ?_
          refine J_if_eq 87 83 dX9_wintersOn_80 rfl rfl (fun c13 => ?_) (fun c13 => ?_)
          · refine J_iload_n (i := 2) 88 dX9_wintersOn_87 rfl rfl rfl ?_
            refine J_if_eq 95 91 dX9_wintersOn_88 rfl rfl (fun c14 => ?_) (fun c14 => ?_)
            · refine J_iconst 96 dX9_wintersOn_95 rfl ?_
              refine J_iadd 97 dX9_wintersOn_96 rfl ?_
              refine J_iast (N := 6) (lo := 0) (hi := 9) 98 dX9_wintersOn_97 rfl rfl rfl rfl ?_
              refine J_iinc 101 dX9_wintersOn_98 rfl (by decide) rfl ?_
              refine J_goto 6 dX9_wintersOn_101 rfl ?_
              first
                | (exfalso; omega)
                | (refine J.wk (ih (i + 1) (d + 1) _ (by omega) (by omega) (wi_up hr hd ?_)) ⟨rfl, rfl, trivial⟩
                   rw [hpe, e40]
                   first | (rw [if_pos (by omega)]; done) | (rw [if_neg (by omega), if_pos (by omega)]; done) | (rw [if_neg (by omega), if_neg (by omega)]; done))
            · refine J_iconst 92 dX9_wintersOn_91 rfl ?_
              refine J_goto 96 dX9_wintersOn_92 rfl ?_
              refine J_iadd 97 dX9_wintersOn_96 rfl ?_
              refine J_iast (N := 6) (lo := 0) (hi := 9) 98 dX9_wintersOn_97 rfl rfl rfl rfl ?_
              refine J_iinc 101 dX9_wintersOn_98 rfl (by decide) rfl ?_
              refine J_goto 6 dX9_wintersOn_101 rfl ?_
              first
                | (exfalso; omega)
                | (refine J.wk (ih (i + 1) (d + 1) _ (by omega) (by omega) (wi_up hr hd ?_)) ⟨rfl, rfl, trivial⟩
                   rw [hpe, e40]
                   first | (rw [if_pos (by omega)]; done) | (rw [if_neg (by omega), if_pos (by omega)]; done) | (rw [if_neg (by omega), if_neg (by omega)]; done))
          · refine J_iconst 84 dX9_wintersOn_83 rfl ?_
            refine J_goto 96 dX9_wintersOn_84 rfl ?_
            refine J_iadd 97 dX9_wintersOn_96 rfl ?_
            refine J_iast (N := 6) (lo := 0) (hi := 9) 98 dX9_wintersOn_97 rfl rfl rfl rfl ?_
            refine J_iinc 101 dX9_wintersOn_98 rfl (by decide) rfl ?_
            refine J_goto 6 dX9_wintersOn_101 rfl ?_
            first
              | (exfalso; omega)
              | (refine J.wk (ih (i + 1) (d + 1) _ (by omega) (by omega) (wi_up hr hd ?_)) ⟨rfl, rfl, trivial⟩
                 rw [hpe, e40]
                 first | (rw [if_pos (by omega)]; done) | (rw [if_neg (by omega), if_pos (by omega)]; done) | (rw [if_neg (by omega), if_neg (by omega)]; done))
        · refine J_aload_n (i := 0) 56 dX9_wintersOn_55 rfl rfl rfl ?_
          refine J_getR 59 dX9_wintersOn_56 rfl fX9_19 rfl rfl ?_
          refine J_iload_n (i := 1) 60 dX9_wintersOn_59 rfl rfl rfl ?_
          refine J_iald (N := 6) (lo := 0) (hi := 9) 61 dX9_wintersOn_60 rfl rfl rfl rfl (fun b15 b16 => ?_)
          refine J_bipush 63 dX9_wintersOn_61 rfl (by decide) ?_
          refine J_icmp_ge 70 66 dX9_wintersOn_63 rfl rfl (fun c17 => ?_) (fun c17 => ?_)
          · refine J_iconst 71 dX9_wintersOn_70 rfl ?_
            refine J_istore_n (i := 3) 72 dX9_wintersOn_71 rfl rfl (by decide) ?_
            refine J_aload_n (i := 0) 73 dX9_wintersOn_72 rfl rfl rfl ?_
            refine J_getR 76 dX9_wintersOn_73 rfl fX9_19 rfl rfl ?_
            refine J_iload_n (i := 1) 77 dX9_wintersOn_76 rfl rfl rfl ?_
            refine J_dup2 78 dX9_wintersOn_77 rfl rfl rfl ?_
            refine J_iald (N := 6) (lo := 0) (hi := 9) 79 dX9_wintersOn_78 rfl rfl rfl rfl (fun b18 b19 => ?_)
            refine J_iload_n (i := 3) 80 dX9_wintersOn_79 rfl rfl rfl ?_
            refine J_if_eq 87 83 dX9_wintersOn_80 rfl rfl (fun c20 => ?_) (fun c20 => ?_)
            · refine J_iload_n (i := 2) 88 dX9_wintersOn_87 rfl rfl rfl ?_
              refine J_if_eq 95 91 dX9_wintersOn_88 rfl rfl (fun c21 => ?_) (fun c21 => ?_)
              · refine J_iconst 96 dX9_wintersOn_95 rfl ?_
                refine J_iadd 97 dX9_wintersOn_96 rfl ?_
                refine J_iast (N := 6) (lo := 0) (hi := 9) 98 dX9_wintersOn_97 rfl rfl rfl rfl ?_
                refine J_iinc 101 dX9_wintersOn_98 rfl (by decide) rfl ?_
                refine J_goto 6 dX9_wintersOn_101 rfl ?_
                first
                  | (exfalso; omega)
                  | (refine J.wk (ih (i + 1) (d + 1) _ (by omega) (by omega) (wi_up hr hd ?_)) ⟨rfl, rfl, trivial⟩
                     rw [hpe, e40]
                     first | (rw [if_pos (by omega)]; done) | (rw [if_neg (by omega), if_pos (by omega)]; done) | (rw [if_neg (by omega), if_neg (by omega)]; done))
              · refine J_iconst 92 dX9_wintersOn_91 rfl ?_
                refine J_goto 96 dX9_wintersOn_92 rfl ?_
                refine J_iadd 97 dX9_wintersOn_96 rfl ?_
                refine J_iast (N := 6) (lo := 0) (hi := 9) 98 dX9_wintersOn_97 rfl rfl rfl rfl ?_
                refine J_iinc 101 dX9_wintersOn_98 rfl (by decide) rfl ?_
                refine J_goto 6 dX9_wintersOn_101 rfl ?_
                first
                  | (exfalso; omega)
                  | (refine J.wk (ih (i + 1) (d + 1) _ (by omega) (by omega) (wi_up hr hd ?_)) ⟨rfl, rfl, trivial⟩
                     rw [hpe, e40]
                     first | (rw [if_pos (by omega)]; done) | (rw [if_neg (by omega), if_pos (by omega)]; done) | (rw [if_neg (by omega), if_neg (by omega)]; done))
            · refine J_iconst 84 dX9_wintersOn_83 rfl ?_
              refine J_goto 96 dX9_wintersOn_84 rfl ?_
              refine J_iadd 97 dX9_wintersOn_96 rfl ?_
              refine J_iast (N := 6) (lo := 0) (hi := 9) 98 dX9_wintersOn_97 rfl rfl rfl rfl ?_
              refine J_iinc 101 dX9_wintersOn_98 rfl (by decide) rfl ?_
              refine J_goto 6 dX9_wintersOn_101 rfl ?_
              first
                | (exfalso; omega)
                | (refine J.wk (ih (i + 1) (d + 1) _ (by omega) (by omega) (wi_up hr hd ?_)) ⟨rfl, rfl, trivial⟩
                   rw [hpe, e40]
                   first | (rw [if_pos (by omega)]; done) | (rw [if_neg (by omega), if_pos (by omega)]; done) | (rw [if_neg (by omega), if_neg (by omega)]; done))
          · refine J_iconst 67 dX9_wintersOn_66 rfl ?_
            refine J_goto 71 dX9_wintersOn_67 rfl ?_
            refine J_istore_n (i := 3) 72 dX9_wintersOn_71 rfl rfl (by decide) ?_
            refine J_aload_n (i := 0) 73 dX9_wintersOn_72 rfl rfl rfl ?_
            refine J_getR 76 dX9_wintersOn_73 rfl fX9_19 rfl rfl ?_
            refine J_iload_n (i := 1) 77 dX9_wintersOn_76 rfl rfl rfl ?_
            refine J_dup2 78 dX9_wintersOn_77 rfl rfl rfl ?_
            refine J_iald (N := 6) (lo := 0) (hi := 9) 79 dX9_wintersOn_78 rfl rfl rfl rfl (fun b22 b23 => ?_)
            refine J_iload_n (i := 3) 80 dX9_wintersOn_79 rfl rfl rfl ?_
            refine J_if_eq 87 83 dX9_wintersOn_80 rfl rfl (fun c24 => ?_) (fun c24 => ?_)
            · refine J_iload_n (i := 2) 88 dX9_wintersOn_87 rfl rfl rfl ?_
              refine J_if_eq 95 91 dX9_wintersOn_88 rfl rfl (fun c25 => ?_) (fun c25 => ?_)
              · refine J_iconst 96 dX9_wintersOn_95 rfl ?_
                refine J_iadd 97 dX9_wintersOn_96 rfl ?_
                refine J_iast (N := 6) (lo := 0) (hi := 9) 98 dX9_wintersOn_97 rfl rfl rfl rfl ?_
                refine J_iinc 101 dX9_wintersOn_98 rfl (by decide) rfl ?_
                refine J_goto 6 dX9_wintersOn_101 rfl ?_
                first
                  | (exfalso; omega)
                  | (refine J.wk (ih (i + 1) (d + 1) _ (by omega) (by omega) (wi_up hr hd ?_)) ⟨rfl, rfl, trivial⟩
                     rw [hpe, e40]
                     first | (rw [if_pos (by omega)]; done) | (rw [if_neg (by omega), if_pos (by omega)]; done) | (rw [if_neg (by omega), if_neg (by omega)]; done))
              · refine J_iconst 92 dX9_wintersOn_91 rfl ?_
                refine J_goto 96 dX9_wintersOn_92 rfl ?_
                refine J_iadd 97 dX9_wintersOn_96 rfl ?_
                refine J_iast (N := 6) (lo := 0) (hi := 9) 98 dX9_wintersOn_97 rfl rfl rfl rfl ?_
                refine J_iinc 101 dX9_wintersOn_98 rfl (by decide) rfl ?_
                refine J_goto 6 dX9_wintersOn_101 rfl ?_
                first
                  | (exfalso; omega)
                  | (refine J.wk (ih (i + 1) (d + 1) _ (by omega) (by omega) (wi_up hr hd ?_)) ⟨rfl, rfl, trivial⟩
                     rw [hpe, e40]
                     first | (rw [if_pos (by omega)]; done) | (rw [if_neg (by omega), if_pos (by omega)]; done) | (rw [if_neg (by omega), if_neg (by omega)]; done))
            · refine J_iconst 84 dX9_wintersOn_83 rfl ?_
              refine J_goto 96 dX9_wintersOn_84 rfl ?_
              refine J_iadd 97 dX9_wintersOn_96 rfl ?_
              refine J_iast (N := 6) (lo := 0) (hi := 9) 98 dX9_wintersOn_97 rfl rfl rfl rfl ?_
              refine J_iinc 101 dX9_wintersOn_98 rfl (by decide) rfl ?_
              refine J_goto 6 dX9_wintersOn_101 rfl ?_
              first
                | (exfalso; omega)
                | (refine J.wk (ih (i + 1) (d + 1) _ (by omega) (by omega) (wi_up hr hd ?_)) ⟨rfl, rfl, trivial⟩
                   rw [hpe, e40]
                   first | (rw [if_pos (by omega)]; done) | (rw [if_neg (by omega), if_pos (by omega)]; done) | (rw [if_neg (by omega), if_neg (by omega)]; done))
      · refine J_aload_n (i := 0) 24 dX9_wintersOn_23 rfl rfl rfl ?_
        refine J_getR 27 dX9_wintersOn_24 rfl fX9_49 rfl rfl ?_
        refine J_iload_n (i := 1) 28 dX9_wintersOn_27 rfl rfl rfl ?_
        refine J_iald (N := 6) (lo := 0) (hi := 9) 29 dX9_wintersOn_28 rfl rfl rfl rfl (fun b26 b27 => ?_)
        refine J_if_le 45 32 dX9_wintersOn_29 rfl rfl (fun c28 => ?_) (fun c28 => ?_)
        · refine J_iconst 46 dX9_wintersOn_45 rfl ?_
          refine J_istore_n (i := 2) 47 dX9_wintersOn_46 rfl rfl (by decide) ?_
          refine J_aload_n (i := 0) 48 dX9_wintersOn_47 rfl rfl rfl ?_
          refine J_iload_n (i := 1) 49 dX9_wintersOn_48 rfl rfl rfl ?_
          refine J_callVi 52 dX9_wintersOn_49 rfl kX9_177 mX9_goesWithout rfl rfl rfl (c_X9_goesWithout) (by first | decide | omega) rfl rfl (Nat.le_of_ble_eq_true rfl) (fun z30 s31 h29 => ?_)
          obtain ⟨rfl, rfl⟩ := h29
          refine J_bif_eq 70 55 dX9_wintersOn_52 rfl rfl (fun c32 => ?_) (fun c32 => ?_)
          · refine J_iconst 71 dX9_wintersOn_70 rfl ?_
            refine J_istore_n (i := 3) 72 dX9_wintersOn_71 rfl rfl (by decide) ?_
            refine J_aload_n (i := 0) 73 dX9_wintersOn_72 rfl rfl rfl ?_
            refine J_getR 76 dX9_wintersOn_73 rfl fX9_19 rfl rfl ?_
            refine J_iload_n (i := 1) 77 dX9_wintersOn_76 rfl rfl rfl ?_
            refine J_dup2 78 dX9_wintersOn_77 rfl rfl rfl ?_
            refine J_iald (N := 6) (lo := 0) (hi := 9) 79 dX9_wintersOn_78 rfl rfl rfl rfl (fun b33 b34 => ?_)
            refine J_iload_n (i := 3) 80 dX9_wintersOn_79 rfl rfl rfl ?_
            refine J_if_eq 87 83 dX9_wintersOn_80 rfl rfl (fun c35 => ?_) (fun c35 => ?_)
            · refine J_iload_n (i := 2) 88 dX9_wintersOn_87 rfl rfl rfl ?_
              refine J_if_eq 95 91 dX9_wintersOn_88 rfl rfl (fun c36 => ?_) (fun c36 => ?_)
              · refine J_iconst 96 dX9_wintersOn_95 rfl ?_
                refine J_iadd 97 dX9_wintersOn_96 rfl ?_
                refine J_iast (N := 6) (lo := 0) (hi := 9) 98 dX9_wintersOn_97 rfl rfl rfl rfl ?_
                refine J_iinc 101 dX9_wintersOn_98 rfl (by decide) rfl ?_
                refine J_goto 6 dX9_wintersOn_101 rfl ?_
                first
                  | (exfalso; omega)
                  | (refine J.wk (ih (i + 1) (d + 1) _ (by omega) (by omega) (wi_up hr hd ?_)) ⟨rfl, rfl, trivial⟩
                     rw [hpe, e40]
                     first | (rw [if_pos (by omega)]; done) | (rw [if_neg (by omega), if_pos (by omega)]; done) | (rw [if_neg (by omega), if_neg (by omega)]; done))
              · refine J_iconst 92 dX9_wintersOn_91 rfl ?_
                refine J_goto 96 dX9_wintersOn_92 rfl ?_
                refine J_iadd 97 dX9_wintersOn_96 rfl ?_
                refine J_iast (N := 6) (lo := 0) (hi := 9) 98 dX9_wintersOn_97 rfl rfl rfl rfl ?_
                refine J_iinc 101 dX9_wintersOn_98 rfl (by decide) rfl ?_
                refine J_goto 6 dX9_wintersOn_101 rfl ?_
                first
                  | (exfalso; omega)
                  | (refine J.wk (ih (i + 1) (d + 1) _ (by omega) (by omega) (wi_up hr hd ?_)) ⟨rfl, rfl, trivial⟩
                     rw [hpe, e40]
                     first | (rw [if_pos (by omega)]; done) | (rw [if_neg (by omega), if_pos (by omega)]; done) | (rw [if_neg (by omega), if_neg (by omega)]; done))
            · refine J_iconst 84 dX9_wintersOn_83 rfl ?_
              refine J_goto 96 dX9_wintersOn_84 rfl ?_
              refine J_iadd 97 dX9_wintersOn_96 rfl ?_
              refine J_iast (N := 6) (lo := 0) (hi := 9) 98 dX9_wintersOn_97 rfl rfl rfl rfl ?_
              refine J_iinc 101 dX9_wintersOn_98 rfl (by decide) rfl ?_
              refine J_goto 6 dX9_wintersOn_101 rfl ?_
              first
                | (exfalso; omega)
                | (refine J.wk (ih (i + 1) (d + 1) _ (by omega) (by omega) (wi_up hr hd ?_)) ⟨rfl, rfl, trivial⟩
                   rw [hpe, e40]
                   first | (rw [if_pos (by omega)]; done) | (rw [if_neg (by omega), if_pos (by omega)]; done) | (rw [if_neg (by omega), if_neg (by omega)]; done))
          · refine J_aload_n (i := 0) 56 dX9_wintersOn_55 rfl rfl rfl ?_
            refine J_getR 59 dX9_wintersOn_56 rfl fX9_19 rfl rfl ?_
            refine J_iload_n (i := 1) 60 dX9_wintersOn_59 rfl rfl rfl ?_
            refine J_iald (N := 6) (lo := 0) (hi := 9) 61 dX9_wintersOn_60 rfl rfl rfl rfl (fun b37 b38 => ?_)
            refine J_bipush 63 dX9_wintersOn_61 rfl (by decide) ?_
            refine J_icmp_ge 70 66 dX9_wintersOn_63 rfl rfl (fun c39 => ?_) (fun c39 => ?_)
            · refine J_iconst 71 dX9_wintersOn_70 rfl ?_
              refine J_istore_n (i := 3) 72 dX9_wintersOn_71 rfl rfl (by decide) ?_
              refine J_aload_n (i := 0) 73 dX9_wintersOn_72 rfl rfl rfl ?_
              refine J_getR 76 dX9_wintersOn_73 rfl fX9_19 rfl rfl ?_
              refine J_iload_n (i := 1) 77 dX9_wintersOn_76 rfl rfl rfl ?_
              refine J_dup2 78 dX9_wintersOn_77 rfl rfl rfl ?_
              refine J_iald (N := 6) (lo := 0) (hi := 9) 79 dX9_wintersOn_78 rfl rfl rfl rfl (fun b40 b41 => ?_)
              refine J_iload_n (i := 3) 80 dX9_wintersOn_79 rfl rfl rfl ?_
              refine J_if_eq 87 83 dX9_wintersOn_80 rfl rfl (fun c42 => ?_) (fun c42 => ?_)
              · refine J_iload_n (i := 2) 88 dX9_wintersOn_87 rfl rfl rfl ?_
                refine J_if_eq 95 91 dX9_wintersOn_88 rfl rfl (fun c43 => ?_) (fun c43 => ?_)
                · refine J_iconst 96 dX9_wintersOn_95 rfl ?_
                  refine J_iadd 97 dX9_wintersOn_96 rfl ?_
                  refine J_iast (N := 6) (lo := 0) (hi := 9) 98 dX9_wintersOn_97 rfl rfl rfl rfl ?_
                  refine J_iinc 101 dX9_wintersOn_98 rfl (by decide) rfl ?_
                  refine J_goto 6 dX9_wintersOn_101 rfl ?_
                  first
                    | (exfalso; omega)
                    | (refine J.wk (ih (i + 1) (d + 1) _ (by omega) (by omega) (wi_up hr hd ?_)) ⟨rfl, rfl, trivial⟩
                       rw [hpe, e40]
                       first | (rw [if_pos (by omega)]; done) | (rw [if_neg (by omega), if_pos (by omega)]; done) | (rw [if_neg (by omega), if_neg (by omega)]; done))
                · refine J_iconst 92 dX9_wintersOn_91 rfl ?_
                  refine J_goto 96 dX9_wintersOn_92 rfl ?_
                  refine J_iadd 97 dX9_wintersOn_96 rfl ?_
                  refine J_iast (N := 6) (lo := 0) (hi := 9) 98 dX9_wintersOn_97 rfl rfl rfl rfl ?_
                  refine J_iinc 101 dX9_wintersOn_98 rfl (by decide) rfl ?_
                  refine J_goto 6 dX9_wintersOn_101 rfl ?_
                  first
                    | (exfalso; omega)
                    | (refine J.wk (ih (i + 1) (d + 1) _ (by omega) (by omega) (wi_up hr hd ?_)) ⟨rfl, rfl, trivial⟩
                       rw [hpe, e40]
                       first | (rw [if_pos (by omega)]; done) | (rw [if_neg (by omega), if_pos (by omega)]; done) | (rw [if_neg (by omega), if_neg (by omega)]; done))
              · refine J_iconst 84 dX9_wintersOn_83 rfl ?_
                refine J_goto 96 dX9_wintersOn_84 rfl ?_
                refine J_iadd 97 dX9_wintersOn_96 rfl ?_
                refine J_iast (N := 6) (lo := 0) (hi := 9) 98 dX9_wintersOn_97 rfl rfl rfl rfl ?_
                refine J_iinc 101 dX9_wintersOn_98 rfl (by decide) rfl ?_
                refine J_goto 6 dX9_wintersOn_101 rfl ?_
                first
                  | (exfalso; omega)
                  | (refine J.wk (ih (i + 1) (d + 1) _ (by omega) (by omega) (wi_up hr hd ?_)) ⟨rfl, rfl, trivial⟩
                     rw [hpe, e40]
                     first | (rw [if_pos (by omega)]; done) | (rw [if_neg (by omega), if_pos (by omega)]; done) | (rw [if_neg (by omega), if_neg (by omega)]; done))
            · refine J_iconst 67 dX9_wintersOn_66 rfl ?_
              refine J_goto 71 dX9_wintersOn_67 rfl ?_
              refine J_istore_n (i := 3) 72 dX9_wintersOn_71 rfl rfl (by decide) ?_
              refine J_aload_n (i := 0) 73 dX9_wintersOn_72 rfl rfl rfl ?_
              refine J_getR 76 dX9_wintersOn_73 rfl fX9_19 rfl rfl ?_
              refine J_iload_n (i := 1) 77 dX9_wintersOn_76 rfl rfl rfl ?_
              refine J_dup2 78 dX9_wintersOn_77 rfl rfl rfl ?_
              refine J_iald (N := 6) (lo := 0) (hi := 9) 79 dX9_wintersOn_78 rfl rfl rfl rfl (fun b44 b45 => ?_)
              refine J_iload_n (i := 3) 80 dX9_wintersOn_79 rfl rfl rfl ?_
              refine J_if_eq 87 83 dX9_wintersOn_80 rfl rfl (fun c46 => ?_) (fun c46 => ?_)
              · refine J_iload_n (i := 2) 88 dX9_wintersOn_87 rfl rfl rfl ?_
                refine J_if_eq 95 91 dX9_wintersOn_88 rfl rfl (fun c47 => ?_) (fun c47 => ?_)
                · refine J_iconst 96 dX9_wintersOn_95 rfl ?_
                  refine J_iadd 97 dX9_wintersOn_96 rfl ?_
                  refine J_iast (N := 6) (lo := 0) (hi := 9) 98 dX9_wintersOn_97 rfl rfl rfl rfl ?_
                  refine J_iinc 101 dX9_wintersOn_98 rfl (by decide) rfl ?_
                  refine J_goto 6 dX9_wintersOn_101 rfl ?_
                  first
                    | (exfalso; omega)
                    | (refine J.wk (ih (i + 1) (d + 1) _ (by omega) (by omega) (wi_up hr hd ?_)) ⟨rfl, rfl, trivial⟩
                       rw [hpe, e40]
                       first | (rw [if_pos (by omega)]; done) | (rw [if_neg (by omega), if_pos (by omega)]; done) | (rw [if_neg (by omega), if_neg (by omega)]; done))
                · refine J_iconst 92 dX9_wintersOn_91 rfl ?_
                  refine J_goto 96 dX9_wintersOn_92 rfl ?_
                  refine J_iadd 97 dX9_wintersOn_96 rfl ?_
                  refine J_iast (N := 6) (lo := 0) (hi := 9) 98 dX9_wintersOn_97 rfl rfl rfl rfl ?_
                  refine J_iinc 101 dX9_wintersOn_98 rfl (by decide) rfl ?_
                  refine J_goto 6 dX9_wintersOn_101 rfl ?_
                  first
                    | (exfalso; omega)
                    | (refine J.wk (ih (i + 1) (d + 1) _ (by omega) (by omega) (wi_up hr hd ?_)) ⟨rfl, rfl, trivial⟩
                       rw [hpe, e40]
                       first | (rw [if_pos (by omega)]; done) | (rw [if_neg (by omega), if_pos (by omega)]; done) | (rw [if_neg (by omega), if_neg (by omega)]; done))
              · refine J_iconst 84 dX9_wintersOn_83 rfl ?_
                refine J_goto 96 dX9_wintersOn_84 rfl ?_
                refine J_iadd 97 dX9_wintersOn_96 rfl ?_
                refine J_iast (N := 6) (lo := 0) (hi := 9) 98 dX9_wintersOn_97 rfl rfl rfl rfl ?_
                refine J_iinc 101 dX9_wintersOn_98 rfl (by decide) rfl ?_
                refine J_goto 6 dX9_wintersOn_101 rfl ?_
                first
                  | (exfalso; omega)
                  | (refine J.wk (ih (i + 1) (d + 1) _ (by omega) (by omega) (wi_up hr hd ?_)) ⟨rfl, rfl, trivial⟩
                     rw [hpe, e40]
                     first | (rw [if_pos (by omega)]; done) | (rw [if_neg (by omega), if_pos (by omega)]; done) | (rw [if_neg (by omega), if_neg (by omega)]; done))
        · refine J_aload_n (i := 0) 33 dX9_wintersOn_32 rfl rfl rfl ?_
          refine J_getR 36 dX9_wintersOn_33 rfl fX9_19 rfl rfl ?_
          refine J_iload_n (i := 1) 37 dX9_wintersOn_36 rfl rfl rfl ?_
          refine J_iald (N := 6) (lo := 0) (hi := 9) 38 dX9_wintersOn_37 rfl rfl rfl rfl (fun b48 b49 => ?_)
          refine J_if_le 45 41 dX9_wintersOn_38 rfl rfl (fun c50 => ?_) (fun c50 => ?_)
          · refine J_iconst 46 dX9_wintersOn_45 rfl ?_
            refine J_istore_n (i := 2) 47 dX9_wintersOn_46 rfl rfl (by decide) ?_
            refine J_aload_n (i := 0) 48 dX9_wintersOn_47 rfl rfl rfl ?_
            refine J_iload_n (i := 1) 49 dX9_wintersOn_48 rfl rfl rfl ?_
            refine J_callVi 52 dX9_wintersOn_49 rfl kX9_177 mX9_goesWithout rfl rfl rfl (c_X9_goesWithout) (by first | decide | omega) rfl rfl (Nat.le_of_ble_eq_true rfl) (fun z52 s53 h51 => ?_)
            obtain ⟨rfl, rfl⟩ := h51
            refine J_bif_eq 70 55 dX9_wintersOn_52 rfl rfl (fun c54 => ?_) (fun c54 => ?_)
            · refine J_iconst 71 dX9_wintersOn_70 rfl ?_
              refine J_istore_n (i := 3) 72 dX9_wintersOn_71 rfl rfl (by decide) ?_
              refine J_aload_n (i := 0) 73 dX9_wintersOn_72 rfl rfl rfl ?_
              refine J_getR 76 dX9_wintersOn_73 rfl fX9_19 rfl rfl ?_
              refine J_iload_n (i := 1) 77 dX9_wintersOn_76 rfl rfl rfl ?_
              refine J_dup2 78 dX9_wintersOn_77 rfl rfl rfl ?_
              refine J_iald (N := 6) (lo := 0) (hi := 9) 79 dX9_wintersOn_78 rfl rfl rfl rfl (fun b55 b56 => ?_)
              refine J_iload_n (i := 3) 80 dX9_wintersOn_79 rfl rfl rfl ?_
              refine J_if_eq 87 83 dX9_wintersOn_80 rfl rfl (fun c57 => ?_) (fun c57 => ?_)
              · refine J_iload_n (i := 2) 88 dX9_wintersOn_87 rfl rfl rfl ?_
                refine J_if_eq 95 91 dX9_wintersOn_88 rfl rfl (fun c58 => ?_) (fun c58 => ?_)
                · refine J_iconst 96 dX9_wintersOn_95 rfl ?_
                  refine J_iadd 97 dX9_wintersOn_96 rfl ?_
                  refine J_iast (N := 6) (lo := 0) (hi := 9) 98 dX9_wintersOn_97 rfl rfl rfl rfl ?_
                  refine J_iinc 101 dX9_wintersOn_98 rfl (by decide) rfl ?_
                  refine J_goto 6 dX9_wintersOn_101 rfl ?_
                  first
                    | (exfalso; omega)
                    | (refine J.wk (ih (i + 1) (d + 1) _ (by omega) (by omega) (wi_up hr hd ?_)) ⟨rfl, rfl, trivial⟩
                       rw [hpe, e40]
                       first | (rw [if_pos (by omega)]; done) | (rw [if_neg (by omega), if_pos (by omega)]; done) | (rw [if_neg (by omega), if_neg (by omega)]; done))
                · refine J_iconst 92 dX9_wintersOn_91 rfl ?_
                  refine J_goto 96 dX9_wintersOn_92 rfl ?_
                  refine J_iadd 97 dX9_wintersOn_96 rfl ?_
                  refine J_iast (N := 6) (lo := 0) (hi := 9) 98 dX9_wintersOn_97 rfl rfl rfl rfl ?_
                  refine J_iinc 101 dX9_wintersOn_98 rfl (by decide) rfl ?_
                  refine J_goto 6 dX9_wintersOn_101 rfl ?_
                  first
                    | (exfalso; omega)
                    | (refine J.wk (ih (i + 1) (d + 1) _ (by omega) (by omega) (wi_up hr hd ?_)) ⟨rfl, rfl, trivial⟩
                       rw [hpe, e40]
                       first | (rw [if_pos (by omega)]; done) | (rw [if_neg (by omega), if_pos (by omega)]; done) | (rw [if_neg (by omega), if_neg (by omega)]; done))
              · refine J_iconst 84 dX9_wintersOn_83 rfl ?_
                refine J_goto 96 dX9_wintersOn_84 rfl ?_
                refine J_iadd 97 dX9_wintersOn_96 rfl ?_
                refine J_iast (N := 6) (lo := 0) (hi := 9) 98 dX9_wintersOn_97 rfl rfl rfl rfl ?_
                refine J_iinc 101 dX9_wintersOn_98 rfl (by decide) rfl ?_
                refine J_goto 6 dX9_wintersOn_101 rfl ?_
                first
                  | (exfalso; omega)
                  | (refine J.wk (ih (i + 1) (d + 1) _ (by omega) (by omega) (wi_up hr hd ?_)) ⟨rfl, rfl, trivial⟩
                     rw [hpe, e40]
                     first | (rw [if_pos (by omega)]; done) | (rw [if_neg (by omega), if_pos (by omega)]; done) | (rw [if_neg (by omega), if_neg (by omega)]; done))
            · refine J_aload_n (i := 0) 56 dX9_wintersOn_55 rfl rfl rfl ?_
              refine J_getR 59 dX9_wintersOn_56 rfl fX9_19 rfl rfl ?_
              refine J_iload_n (i := 1) 60 dX9_wintersOn_59 rfl rfl rfl ?_
              refine J_iald (N := 6) (lo := 0) (hi := 9) 61 dX9_wintersOn_60 rfl rfl rfl rfl (fun b59 b60 => ?_)
              refine J_bipush 63 dX9_wintersOn_61 rfl (by decide) ?_
              refine J_icmp_ge 70 66 dX9_wintersOn_63 rfl rfl (fun c61 => ?_) (fun c61 => ?_)
              · refine J_iconst 71 dX9_wintersOn_70 rfl ?_
                refine J_istore_n (i := 3) 72 dX9_wintersOn_71 rfl rfl (by decide) ?_
                refine J_aload_n (i := 0) 73 dX9_wintersOn_72 rfl rfl rfl ?_
                refine J_getR 76 dX9_wintersOn_73 rfl fX9_19 rfl rfl ?_
                refine J_iload_n (i := 1) 77 dX9_wintersOn_76 rfl rfl rfl ?_
                refine J_dup2 78 dX9_wintersOn_77 rfl rfl rfl ?_
                refine J_iald (N := 6) (lo := 0) (hi := 9) 79 dX9_wintersOn_78 rfl rfl rfl rfl (fun b62 b63 => ?_)
                refine J_iload_n (i := 3) 80 dX9_wintersOn_79 rfl rfl rfl ?_
                refine J_if_eq 87 83 dX9_wintersOn_80 rfl rfl (fun c64 => ?_) (fun c64 => ?_)
                · refine J_iload_n (i := 2) 88 dX9_wintersOn_87 rfl rfl rfl ?_
                  refine J_if_eq 95 91 dX9_wintersOn_88 rfl rfl (fun c65 => ?_) (fun c65 => ?_)
                  · refine J_iconst 96 dX9_wintersOn_95 rfl ?_
                    refine J_iadd 97 dX9_wintersOn_96 rfl ?_
                    refine J_iast (N := 6) (lo := 0) (hi := 9) 98 dX9_wintersOn_97 rfl rfl rfl rfl ?_
                    refine J_iinc 101 dX9_wintersOn_98 rfl (by decide) rfl ?_
                    refine J_goto 6 dX9_wintersOn_101 rfl ?_
                    first
                      | (exfalso; omega)
                      | (refine J.wk (ih (i + 1) (d + 1) _ (by omega) (by omega) (wi_up hr hd ?_)) ⟨rfl, rfl, trivial⟩
                         rw [hpe, e40]
                         first | (rw [if_pos (by omega)]; done) | (rw [if_neg (by omega), if_pos (by omega)]; done) | (rw [if_neg (by omega), if_neg (by omega)]; done))
                  · refine J_iconst 92 dX9_wintersOn_91 rfl ?_
                    refine J_goto 96 dX9_wintersOn_92 rfl ?_
                    refine J_iadd 97 dX9_wintersOn_96 rfl ?_
                    refine J_iast (N := 6) (lo := 0) (hi := 9) 98 dX9_wintersOn_97 rfl rfl rfl rfl ?_
                    refine J_iinc 101 dX9_wintersOn_98 rfl (by decide) rfl ?_
                    refine J_goto 6 dX9_wintersOn_101 rfl ?_
                    first
                      | (exfalso; omega)
                      | (refine J.wk (ih (i + 1) (d + 1) _ (by omega) (by omega) (wi_up hr hd ?_)) ⟨rfl, rfl, trivial⟩
                         rw [hpe, e40]
                         first | (rw [if_pos (by omega)]; done) | (rw [if_neg (by omega), if_pos (by omega)]; done) | (rw [if_neg (by omega), if_neg (by omega)]; done))
                · refine J_iconst 84 dX9_wintersOn_83 rfl ?_
                  refine J_goto 96 dX9_wintersOn_84 rfl ?_
                  refine J_iadd 97 dX9_wintersOn_96 rfl ?_
                  refine J_iast (N := 6) (lo := 0) (hi := 9) 98 dX9_wintersOn_97 rfl rfl rfl rfl ?_
                  refine J_iinc 101 dX9_wintersOn_98 rfl (by decide) rfl ?_
                  refine J_goto 6 dX9_wintersOn_101 rfl ?_
                  first
                    | (exfalso; omega)
                    | (refine J.wk (ih (i + 1) (d + 1) _ (by omega) (by omega) (wi_up hr hd ?_)) ⟨rfl, rfl, trivial⟩
                       rw [hpe, e40]
                       first | (rw [if_pos (by omega)]; done) | (rw [if_neg (by omega), if_pos (by omega)]; done) | (rw [if_neg (by omega), if_neg (by omega)]; done))
              · refine J_iconst 67 dX9_wintersOn_66 rfl ?_
                refine J_goto 71 dX9_wintersOn_67 rfl ?_
                refine J_istore_n (i := 3) 72 dX9_wintersOn_71 rfl rfl (by decide) ?_
                refine J_aload_n (i := 0) 73 dX9_wintersOn_72 rfl rfl rfl ?_
                refine J_getR 76 dX9_wintersOn_73 rfl fX9_19 rfl rfl ?_
                refine J_iload_n (i := 1) 77 dX9_wintersOn_76 rfl rfl rfl ?_
                refine J_dup2 78 dX9_wintersOn_77 rfl rfl rfl ?_
                refine J_iald (N := 6) (lo := 0) (hi := 9) 79 dX9_wintersOn_78 rfl rfl rfl rfl (fun b66 b67 => ?_)
                refine J_iload_n (i := 3) 80 dX9_wintersOn_79 rfl rfl rfl ?_
                refine J_if_eq 87 83 dX9_wintersOn_80 rfl rfl (fun c68 => ?_) (fun c68 => ?_)
                · refine J_iload_n (i := 2) 88 dX9_wintersOn_87 rfl rfl rfl ?_
                  refine J_if_eq 95 91 dX9_wintersOn_88 rfl rfl (fun c69 => ?_) (fun c69 => ?_)
                  · refine J_iconst 96 dX9_wintersOn_95 rfl ?_
                    refine J_iadd 97 dX9_wintersOn_96 rfl ?_
                    refine J_iast (N := 6) (lo := 0) (hi := 9) 98 dX9_wintersOn_97 rfl rfl rfl rfl ?_
                    refine J_iinc 101 dX9_wintersOn_98 rfl (by decide) rfl ?_
                    refine J_goto 6 dX9_wintersOn_101 rfl ?_
                    first
                      | (exfalso; omega)
                      | (refine J.wk (ih (i + 1) (d + 1) _ (by omega) (by omega) (wi_up hr hd ?_)) ⟨rfl, rfl, trivial⟩
                         rw [hpe, e40]
                         first | (rw [if_pos (by omega)]; done) | (rw [if_neg (by omega), if_pos (by omega)]; done) | (rw [if_neg (by omega), if_neg (by omega)]; done))
                  · refine J_iconst 92 dX9_wintersOn_91 rfl ?_
                    refine J_goto 96 dX9_wintersOn_92 rfl ?_
                    refine J_iadd 97 dX9_wintersOn_96 rfl ?_
                    refine J_iast (N := 6) (lo := 0) (hi := 9) 98 dX9_wintersOn_97 rfl rfl rfl rfl ?_
                    refine J_iinc 101 dX9_wintersOn_98 rfl (by decide) rfl ?_
                    refine J_goto 6 dX9_wintersOn_101 rfl ?_
                    first
                      | (exfalso; omega)
                      | (refine J.wk (ih (i + 1) (d + 1) _ (by omega) (by omega) (wi_up hr hd ?_)) ⟨rfl, rfl, trivial⟩
                         rw [hpe, e40]
                         first | (rw [if_pos (by omega)]; done) | (rw [if_neg (by omega), if_pos (by omega)]; done) | (rw [if_neg (by omega), if_neg (by omega)]; done))
                · refine J_iconst 84 dX9_wintersOn_83 rfl ?_
                  refine J_goto 96 dX9_wintersOn_84 rfl ?_
                  refine J_iadd 97 dX9_wintersOn_96 rfl ?_
                  refine J_iast (N := 6) (lo := 0) (hi := 9) 98 dX9_wintersOn_97 rfl rfl rfl rfl ?_
                  refine J_iinc 101 dX9_wintersOn_98 rfl (by decide) rfl ?_
                  refine J_goto 6 dX9_wintersOn_101 rfl ?_
                  first
                    | (exfalso; omega)
                    | (refine J.wk (ih (i + 1) (d + 1) _ (by omega) (by omega) (wi_up hr hd ?_)) ⟨rfl, rfl, trivial⟩
                       rw [hpe, e40]
                       first | (rw [if_pos (by omega)]; done) | (rw [if_neg (by omega), if_pos (by omega)]; done) | (rw [if_neg (by omega), if_neg (by omega)]; done))
          · refine J_iconst 42 dX9_wintersOn_41 rfl ?_
            refine J_goto 46 dX9_wintersOn_42 rfl ?_
            refine J_istore_n (i := 2) 47 dX9_wintersOn_46 rfl rfl (by decide) ?_
            refine J_aload_n (i := 0) 48 dX9_wintersOn_47 rfl rfl rfl ?_
            refine J_iload_n (i := 1) 49 dX9_wintersOn_48 rfl rfl rfl ?_
            refine J_callVi 52 dX9_wintersOn_49 rfl kX9_177 mX9_goesWithout rfl rfl rfl (c_X9_goesWithout) (by first | decide | omega) rfl rfl (Nat.le_of_ble_eq_true rfl) (fun z71 s72 h70 => ?_)
            obtain ⟨rfl, rfl⟩ := h70
            refine J_bif_eq 70 55 dX9_wintersOn_52 rfl rfl (fun c73 => ?_) (fun c73 => ?_)
            · refine J_iconst 71 dX9_wintersOn_70 rfl ?_
              refine J_istore_n (i := 3) 72 dX9_wintersOn_71 rfl rfl (by decide) ?_
              refine J_aload_n (i := 0) 73 dX9_wintersOn_72 rfl rfl rfl ?_
              refine J_getR 76 dX9_wintersOn_73 rfl fX9_19 rfl rfl ?_
              refine J_iload_n (i := 1) 77 dX9_wintersOn_76 rfl rfl rfl ?_
              refine J_dup2 78 dX9_wintersOn_77 rfl rfl rfl ?_
              refine J_iald (N := 6) (lo := 0) (hi := 9) 79 dX9_wintersOn_78 rfl rfl rfl rfl (fun b74 b75 => ?_)
              refine J_iload_n (i := 3) 80 dX9_wintersOn_79 rfl rfl rfl ?_
              refine J_if_eq 87 83 dX9_wintersOn_80 rfl rfl (fun c76 => ?_) (fun c76 => ?_)
              · refine J_iload_n (i := 2) 88 dX9_wintersOn_87 rfl rfl rfl ?_
                refine J_if_eq 95 91 dX9_wintersOn_88 rfl rfl (fun c77 => ?_) (fun c77 => ?_)
                · refine J_iconst 96 dX9_wintersOn_95 rfl ?_
                  refine J_iadd 97 dX9_wintersOn_96 rfl ?_
                  refine J_iast (N := 6) (lo := 0) (hi := 9) 98 dX9_wintersOn_97 rfl rfl rfl rfl ?_
                  refine J_iinc 101 dX9_wintersOn_98 rfl (by decide) rfl ?_
                  refine J_goto 6 dX9_wintersOn_101 rfl ?_
                  first
                    | (exfalso; omega)
                    | (refine J.wk (ih (i + 1) (d + 1) _ (by omega) (by omega) (wi_up hr hd ?_)) ⟨rfl, rfl, trivial⟩
                       rw [hpe, e40]
                       first | (rw [if_pos (by omega)]; done) | (rw [if_neg (by omega), if_pos (by omega)]; done) | (rw [if_neg (by omega), if_neg (by omega)]; done))
                · refine J_iconst 92 dX9_wintersOn_91 rfl ?_
                  refine J_goto 96 dX9_wintersOn_92 rfl ?_
                  refine J_iadd 97 dX9_wintersOn_96 rfl ?_
                  refine J_iast (N := 6) (lo := 0) (hi := 9) 98 dX9_wintersOn_97 rfl rfl rfl rfl ?_
                  refine J_iinc 101 dX9_wintersOn_98 rfl (by decide) rfl ?_
                  refine J_goto 6 dX9_wintersOn_101 rfl ?_
                  first
                    | (exfalso; omega)
                    | (refine J.wk (ih (i + 1) (d + 1) _ (by omega) (by omega) (wi_up hr hd ?_)) ⟨rfl, rfl, trivial⟩
                       rw [hpe, e40]
                       first | (rw [if_pos (by omega)]; done) | (rw [if_neg (by omega), if_pos (by omega)]; done) | (rw [if_neg (by omega), if_neg (by omega)]; done))
              · refine J_iconst 84 dX9_wintersOn_83 rfl ?_
                refine J_goto 96 dX9_wintersOn_84 rfl ?_
                refine J_iadd 97 dX9_wintersOn_96 rfl ?_
                refine J_iast (N := 6) (lo := 0) (hi := 9) 98 dX9_wintersOn_97 rfl rfl rfl rfl ?_
                refine J_iinc 101 dX9_wintersOn_98 rfl (by decide) rfl ?_
                refine J_goto 6 dX9_wintersOn_101 rfl ?_
                first
                  | (exfalso; omega)
                  | (refine J.wk (ih (i + 1) (d + 1) _ (by omega) (by omega) (wi_up hr hd ?_)) ⟨rfl, rfl, trivial⟩
                     rw [hpe, e40]
                     first | (rw [if_pos (by omega)]; done) | (rw [if_neg (by omega), if_pos (by omega)]; done) | (rw [if_neg (by omega), if_neg (by omega)]; done))
            · refine J_aload_n (i := 0) 56 dX9_wintersOn_55 rfl rfl rfl ?_
              refine J_getR 59 dX9_wintersOn_56 rfl fX9_19 rfl rfl ?_
              refine J_iload_n (i := 1) 60 dX9_wintersOn_59 rfl rfl rfl ?_
              refine J_iald (N := 6) (lo := 0) (hi := 9) 61 dX9_wintersOn_60 rfl rfl rfl rfl (fun b78 b79 => ?_)
              refine J_bipush 63 dX9_wintersOn_61 rfl (by decide) ?_
              refine J_icmp_ge 70 66 dX9_wintersOn_63 rfl rfl (fun c80 => ?_) (fun c80 => ?_)
              · refine J_iconst 71 dX9_wintersOn_70 rfl ?_
                refine J_istore_n (i := 3) 72 dX9_wintersOn_71 rfl rfl (by decide) ?_
                refine J_aload_n (i := 0) 73 dX9_wintersOn_72 rfl rfl rfl ?_
                refine J_getR 76 dX9_wintersOn_73 rfl fX9_19 rfl rfl ?_
                refine J_iload_n (i := 1) 77 dX9_wintersOn_76 rfl rfl rfl ?_
                refine J_dup2 78 dX9_wintersOn_77 rfl rfl rfl ?_
                refine J_iald (N := 6) (lo := 0) (hi := 9) 79 dX9_wintersOn_78 rfl rfl rfl rfl (fun b81 b82 => ?_)
                refine J_iload_n (i := 3) 80 dX9_wintersOn_79 rfl rfl rfl ?_
                refine J_if_eq 87 83 dX9_wintersOn_80 rfl rfl (fun c83 => ?_) (fun c83 => ?_)
                · refine J_iload_n (i := 2) 88 dX9_wintersOn_87 rfl rfl rfl ?_
                  refine J_if_eq 95 91 dX9_wintersOn_88 rfl rfl (fun c84 => ?_) (fun c84 => ?_)
                  · refine J_iconst 96 dX9_wintersOn_95 rfl ?_
                    refine J_iadd 97 dX9_wintersOn_96 rfl ?_
                    refine J_iast (N := 6) (lo := 0) (hi := 9) 98 dX9_wintersOn_97 rfl rfl rfl rfl ?_
                    refine J_iinc 101 dX9_wintersOn_98 rfl (by decide) rfl ?_
                    refine J_goto 6 dX9_wintersOn_101 rfl ?_
                    first
                      | (exfalso; omega)
                      | (refine J.wk (ih (i + 1) (d + 1) _ (by omega) (by omega) (wi_up hr hd ?_)) ⟨rfl, rfl, trivial⟩
                         rw [hpe, e40]
                         first | (rw [if_pos (by omega)]; done) | (rw [if_neg (by omega), if_pos (by omega)]; done) | (rw [if_neg (by omega), if_neg (by omega)]; done))
                  · refine J_iconst 92 dX9_wintersOn_91 rfl ?_
                    refine J_goto 96 dX9_wintersOn_92 rfl ?_
                    refine J_iadd 97 dX9_wintersOn_96 rfl ?_
                    refine J_iast (N := 6) (lo := 0) (hi := 9) 98 dX9_wintersOn_97 rfl rfl rfl rfl ?_
                    refine J_iinc 101 dX9_wintersOn_98 rfl (by decide) rfl ?_
                    refine J_goto 6 dX9_wintersOn_101 rfl ?_
                    first
                      | (exfalso; omega)
                      | (refine J.wk (ih (i + 1) (d + 1) _ (by omega) (by omega) (wi_up hr hd ?_)) ⟨rfl, rfl, trivial⟩
                         rw [hpe, e40]
                         first | (rw [if_pos (by omega)]; done) | (rw [if_neg (by omega), if_pos (by omega)]; done) | (rw [if_neg (by omega), if_neg (by omega)]; done))
                · refine J_iconst 84 dX9_wintersOn_83 rfl ?_
                  refine J_goto 96 dX9_wintersOn_84 rfl ?_
                  refine J_iadd 97 dX9_wintersOn_96 rfl ?_
                  refine J_iast (N := 6) (lo := 0) (hi := 9) 98 dX9_wintersOn_97 rfl rfl rfl rfl ?_
                  refine J_iinc 101 dX9_wintersOn_98 rfl (by decide) rfl ?_
                  refine J_goto 6 dX9_wintersOn_101 rfl ?_
                  first
                    | (exfalso; omega)
                    | (refine J.wk (ih (i + 1) (d + 1) _ (by omega) (by omega) (wi_up hr hd ?_)) ⟨rfl, rfl, trivial⟩
                       rw [hpe, e40]
                       first | (rw [if_pos (by omega)]; done) | (rw [if_neg (by omega), if_pos (by omega)]; done) | (rw [if_neg (by omega), if_neg (by omega)]; done))
              · refine J_iconst 67 dX9_wintersOn_66 rfl ?_
                refine J_goto 71 dX9_wintersOn_67 rfl ?_
                refine J_istore_n (i := 3) 72 dX9_wintersOn_71 rfl rfl (by decide) ?_
                refine J_aload_n (i := 0) 73 dX9_wintersOn_72 rfl rfl rfl ?_
                refine J_getR 76 dX9_wintersOn_73 rfl fX9_19 rfl rfl ?_
                refine J_iload_n (i := 1) 77 dX9_wintersOn_76 rfl rfl rfl ?_
                refine J_dup2 78 dX9_wintersOn_77 rfl rfl rfl ?_
                refine J_iald (N := 6) (lo := 0) (hi := 9) 79 dX9_wintersOn_78 rfl rfl rfl rfl (fun b85 b86 => ?_)
                refine J_iload_n (i := 3) 80 dX9_wintersOn_79 rfl rfl rfl ?_
                refine J_if_eq 87 83 dX9_wintersOn_80 rfl rfl (fun c87 => ?_) (fun c87 => ?_)
                · refine J_iload_n (i := 2) 88 dX9_wintersOn_87 rfl rfl rfl ?_
                  refine J_if_eq 95 91 dX9_wintersOn_88 rfl rfl (fun c88 => ?_) (fun c88 => ?_)
                  · refine J_iconst 96 dX9_wintersOn_95 rfl ?_
                    refine J_iadd 97 dX9_wintersOn_96 rfl ?_
                    refine J_iast (N := 6) (lo := 0) (hi := 9) 98 dX9_wintersOn_97 rfl rfl rfl rfl ?_
                    refine J_iinc 101 dX9_wintersOn_98 rfl (by decide) rfl ?_
                    refine J_goto 6 dX9_wintersOn_101 rfl ?_
                    first
                      | (exfalso; omega)
                      | (refine J.wk (ih (i + 1) (d + 1) _ (by omega) (by omega) (wi_up hr hd ?_)) ⟨rfl, rfl, trivial⟩
                         rw [hpe, e40]
                         first | (rw [if_pos (by omega)]; done) | (rw [if_neg (by omega), if_pos (by omega)]; done) | (rw [if_neg (by omega), if_neg (by omega)]; done))
                  · refine J_iconst 92 dX9_wintersOn_91 rfl ?_
                    refine J_goto 96 dX9_wintersOn_92 rfl ?_
                    refine J_iadd 97 dX9_wintersOn_96 rfl ?_
                    refine J_iast (N := 6) (lo := 0) (hi := 9) 98 dX9_wintersOn_97 rfl rfl rfl rfl ?_
                    refine J_iinc 101 dX9_wintersOn_98 rfl (by decide) rfl ?_
                    refine J_goto 6 dX9_wintersOn_101 rfl ?_
                    first
                      | (exfalso; omega)
                      | (refine J.wk (ih (i + 1) (d + 1) _ (by omega) (by omega) (wi_up hr hd ?_)) ⟨rfl, rfl, trivial⟩
                         rw [hpe, e40]
                         first | (rw [if_pos (by omega)]; done) | (rw [if_neg (by omega), if_pos (by omega)]; done) | (rw [if_neg (by omega), if_neg (by omega)]; done))
                · refine J_iconst 84 dX9_wintersOn_83 rfl ?_
                  refine J_goto 96 dX9_wintersOn_84 rfl ?_
                  refine J_iadd 97 dX9_wintersOn_96 rfl ?_
                  refine J_iast (N := 6) (lo := 0) (hi := 9) 98 dX9_wintersOn_97 rfl rfl rfl rfl ?_
                  refine J_iinc 101 dX9_wintersOn_98 rfl (by decide) rfl ?_
                  refine J_goto 6 dX9_wintersOn_101 rfl ?_
                  first
                    | (exfalso; omega)
                    | (refine J.wk (ih (i + 1) (d + 1) _ (by omega) (by omega) (wi_up hr hd ?_)) ⟨rfl, rfl, trivial⟩
                       rw [hpe, e40]
                       first | (rw [if_pos (by omega)]; done) | (rw [if_neg (by omega), if_pos (by omega)]; done) | (rw [if_neg (by omega), if_neg (by omega)]; done))
theorem c_X9_wintersOn (hok : okG σ) : Ct P 5 yX9_wintersOn cX9_wintersOn 4 none [vr P 36] σ (qv (wiQ σ)) := by
  refine Ct.bd (fun hB => ?_)
  have hvB := vR_B hB
  have hn : 0 ≤ σ 36 2 ∧ σ 36 2 ≤ 6 := hB 36 2
  refine Ct.of _ rfl rfl rfl (Nat.le_of_ble_eq_true rfl) (fun hB => ?_)
  refine J_aload_n (i := 0) 1 dX9_wintersOn_0 rfl rfl rfl ?_
  refine J_callVv 4 dX9_wintersOn_1 rfl kX9_183 mX9_gives rfl rfl rfl (c_X9_gives hok) (by first | decide | omega) rfl rfl (Nat.le_of_ble_eq_true rfl) (fun s3 h1 => ?_)
  have hG := h1
  refine J_iconst 5 dX9_wintersOn_4 rfl ?_
  refine J_istore_n (i := 1) 6 dX9_wintersOn_5 rfl rfl (by decide) ?_
  refine J.wk (l_X9_wintersOn hvB hn _ 0 0 _ (Nat.zero_add _) rfl ⟨?_, fun q _ a b c => hG.1 q a b c, fun j a b => (hG.2.1 j a b).1⟩) ⟨rfl, rfl, trivial⟩
  rw [hG.1 40 (by omega) (by omega) (by omega)]
  funext j
  unfold passN
  rw [if_neg (by omega)]
  rfl
set_option maxHeartbeats 4000000 in
theorem l_X9_showsAsNumber : ∀ (k i : Nat) (d r : Int), i + k = nM (vR σ) → d = i → r = digN (vR σ 4) i → J P 1 (RX9, cX9_showsAsNumber, 3, some .int) 4 [some (vr P 36), some (vi r), some (vi d)] [] σ (rI (digN (vR σ 4) (nM (vR σ))) σ) := by
  intro k
  induction k with
  | zero =>
    intro i d r hi hd hr
    refine J.bd (fun hB => ?_)
    have hvB := vR_B hB
    have e2 : nM (vR σ) = (σ 36 2).toNat := rfl
    have hn : 0 ≤ σ 36 2 ∧ σ 36 2 ≤ 6 := hB 36 2
    have hdb := digN_m (f := vR σ 4) hvB.2.2.2.2.2.2.2.1 (n := i) (by omega)
    (
      refine J_iload_n (i := 2) 5 dX9_showsAsNumber_4 rfl rfl rfl ?_
      refine J_aload_n (i := 0) 6 dX9_showsAsNumber_5 rfl rfl rfl ?_
      refine J_getI (jz := 2) (lo := 0) (hi := 6) 9 dX9_showsAsNumber_6 rfl fX9_104 rfl rfl rfl rfl (fun b1 b2 => ?_)
      refine J_icmp_ge 30 12 dX9_showsAsNumber_9 rfl rfl (fun c3 => ?_) (fun c3 => ?_)
      · refine J_iload_n (i := 1) 31 dX9_showsAsNumber_30 rfl rfl rfl ?_
        refine J_iret dX9_showsAsNumber_31 rfl ?_
        refine ⟨?_, rfl⟩
        subst hr
        rw [Nat.add_zero] at hi
        rw [hi]
      · exfalso; omega
    )
  | succ k ih =>
    intro i d r hi hd hr
    refine J.bd (fun hB => ?_)
    have hvB := vR_B hB
    have e2 : nM (vR σ) = (σ 36 2).toNat := rfl
    have hn : 0 ≤ σ 36 2 ∧ σ 36 2 ≤ 6 := hB 36 2
    have hdb := digN_m (f := vR σ 4) hvB.2.2.2.2.2.2.2.1 (n := i) (by omega)
    (
      refine J_iload_n (i := 2) 5 dX9_showsAsNumber_4 rfl rfl rfl ?_
      refine J_aload_n (i := 0) 6 dX9_showsAsNumber_5 rfl rfl rfl ?_
      refine J_getI (jz := 2) (lo := 0) (hi := 6) 9 dX9_showsAsNumber_6 rfl fX9_104 rfl rfl rfl rfl (fun b1 b2 => ?_)
      refine J_icmp_ge 30 12 dX9_showsAsNumber_9 rfl rfl (fun c3 => ?_) (fun c3 => ?_)
      · exfalso; omega
      · refine J_bipush 14 dX9_showsAsNumber_12 rfl (by decide) ?_
        refine J_iload_n (i := 1) 15 dX9_showsAsNumber_14 rfl rfl rfl ?_
        refine J_imul 16 dX9_showsAsNumber_15 rfl ?_
        refine J_aload_n (i := 0) 17 dX9_showsAsNumber_16 rfl rfl rfl ?_
        refine J_getR 20 dX9_showsAsNumber_17 rfl fX9_19 rfl rfl ?_
        refine J_iload_n (i := 2) 21 dX9_showsAsNumber_20 rfl rfl rfl ?_
        refine J_iald (N := 6) (lo := 0) (hi := 9) 22 dX9_showsAsNumber_21 rfl rfl rfl rfl (fun b4 b5 => ?_)
        refine J_iadd 23 dX9_showsAsNumber_22 rfl ?_
        refine J_istore_n (i := 1) 24 dX9_showsAsNumber_23 rfl rfl (by decide) ?_
        refine J_iinc 27 dX9_showsAsNumber_24 rfl (by decide) rfl ?_
        refine J_goto 4 dX9_showsAsNumber_27 rfl ?_
        refine ih (i + 1) _ _ (by omega) (by omega) ?_
        subst hd hr
        simp only [digN]
        rfl
    )
theorem c_X9_showsAsNumber : Ct P 1 yX9_showsAsNumber cX9_showsAsNumber 3 (some .int) [vr P 36] σ (rI (digN (vR σ 4) (nM (vR σ))) σ) := by
  (
    refine Ct.of _ rfl rfl rfl (Nat.le_of_ble_eq_true rfl) (fun hB => ?_)
    refine J_iconst 1 dX9_showsAsNumber_0 rfl ?_
    refine J_istore_n (i := 1) 2 dX9_showsAsNumber_1 rfl rfl (by decide) ?_
    refine J_iconst 3 dX9_showsAsNumber_2 rfl ?_
    refine J_istore_n (i := 2) 4 dX9_showsAsNumber_3 rfl rfl (by decide) ?_
    exact l_X9_showsAsNumber  _ 0 _ _ (Nat.zero_add _) rfl rfl
  )
set_option maxHeartbeats 4000000 in
theorem l_X9_metBefore (hx : inR x) {m : Nat} (hm : m ≤ 301) : ∀ (k : Nat) (d r : Int), d + 1 = k → k ≤ m → inR r → J P 1 (RX9, cX9_metBefore, 5, some .int) 8 [some (vr P 36), some (vi x), some (vi y), some (vi r), some (vi d)] [] σ (rI (dnN (fun s => decide (σ 58 s = x)) k r) σ) := by
  intro k
  induction k with
  | zero =>
    intro d r hd hm hr
    refine J_iload 10 dX9_metBefore_8 rfl rfl ?_
    refine J_if_lt 37 13 dX9_metBefore_10 rfl rfl (fun c1 => ?_) (fun c1 => ?_)
    · refine J_iload_n (i := 3) 38 dX9_metBefore_37 rfl rfl rfl ?_
      refine J_iret dX9_metBefore_38 rfl ?_
      exact ⟨rfl, rfl⟩
    · exfalso; omega
  | succ k ih =>
    intro d r hd hm hr
    have ed : (k : Int) = d := by omega
    have hst : dnN (fun s => decide (σ 58 s = x)) (k + 1) r = dnN (fun s => decide (σ 58 s = x)) k (if σ 58 d = x then d else r) := by
      simp only [dnN, decide_eq_true_eq]
      rw [ed]
    rw [hst]
    refine J_iload 10 dX9_metBefore_8 rfl rfl ?_
    refine J_if_lt 37 13 dX9_metBefore_10 rfl rfl (fun c1 => ?_) (fun c1 => ?_)
    · exfalso; omega
    · refine J_aload_n (i := 0) 14 dX9_metBefore_13 rfl rfl rfl ?_
      refine J_getR 17 dX9_metBefore_14 rfl fX9_73 rfl rfl ?_
      refine J_iload 19 dX9_metBefore_17 rfl rfl ?_
      refine J_iald (N := 301) (lo := 0) (hi := 999999) 20 dX9_metBefore_19 rfl rfl rfl rfl (fun b2 b3 => ?_)
      refine J_iload_n (i := 1) 21 dX9_metBefore_20 rfl rfl rfl ?_
      refine J_icmp_ne 29 24 dX9_metBefore_21 rfl rfl (fun c4 => ?_) (fun c4 => ?_)
      · refine J_iload_n (i := 3) 30 dX9_metBefore_29 rfl rfl rfl ?_
        refine J_istore_n (i := 3) 31 dX9_metBefore_30 rfl rfl (by decide) ?_
        refine J_iinc 34 dX9_metBefore_31 rfl (by decide) rfl ?_
        refine J_goto 8 dX9_metBefore_34 rfl ?_
        first
          | (rw [if_pos (by omega)]; exact ih (d - 1) d (by omega) (by omega) (by omega))
          | (rw [if_neg (by omega)]; exact ih (d - 1) r (by omega) (by omega) hr)
      · refine J_iload 26 dX9_metBefore_24 rfl rfl ?_
        refine J_goto 30 dX9_metBefore_26 rfl ?_
        refine J_istore_n (i := 3) 31 dX9_metBefore_30 rfl rfl (by decide) ?_
        refine J_iinc 34 dX9_metBefore_31 rfl (by decide) rfl ?_
        refine J_goto 8 dX9_metBefore_34 rfl ?_
        first
          | (rw [if_pos (by omega)]; exact ih (d - 1) d (by omega) (by omega) (by omega))
          | (rw [if_neg (by omega)]; exact ih (d - 1) r (by omega) (by omega) hr)
theorem c_X9_metBefore (hx : inR x) {m : Nat} (hm : m ≤ 301) (hy : y = m) : Ct P 1 yX9_metBefore cX9_metBefore 5 (some .int) [vr P 36, vi x, vi y] σ (rI (if leastN (fun s => decide (σ 58 s = x)) m < m then (leastN (fun s => decide (σ 58 s = x)) m : Int) else -9) σ) := by
  rw [← dnN_eq]
  refine Ct.of _ rfl rfl rfl (Nat.le_of_ble_eq_true rfl) (fun hB => ?_)
  refine J_bipush 2 dX9_metBefore_0 rfl (by decide) ?_
  refine J_istore_n (i := 3) 3 dX9_metBefore_2 rfl rfl (by decide) ?_
  refine J_iload_n (i := 2) 4 dX9_metBefore_3 rfl rfl rfl ?_
  refine J_iconst 5 dX9_metBefore_4 rfl ?_
  refine J_isub 6 dX9_metBefore_5 rfl ?_
  refine J_istore 8 dX9_metBefore_6 rfl (by decide) ?_
  exact l_X9_metBefore hx hm m _ _ (by omega) (by omega) (by omega)
set_option maxHeartbeats 4000000 in
theorem l_X9_settlesE {base : jS} {v : jS} (hkp : kpI σ (σ 36 1) (σ 36 2) base) (hb : BDY base τ) (hx : 0 ≤ x ∧ x ≤ 1) (hy : 0 ≤ y ∧ y ≤ 301) (hz : -9 ≤ z ∧ z ≤ 301) (he : 0 ≤ z ∨ 300 < y) {R : Int} (hR : R = if z < 0 then -9 else if x = 0 then z else y - z) : J P 6 (RX9, cX9_settles, 4, some .int) 32 [some (vr P 36), some (vi x), some (vi y), some (vi z)] [] τ (qi fun z σ' => R = z ∧ KR σ σ') := by
  refine J_iload_n (i := 3) 33 dX9_settles_32 rfl rfl rfl ?_
  refine J_if_ge 77 36 dX9_settles_33 rfl rfl (fun c1 => ?_) (fun c1 => ?_)
  · refine J_aload_n (i := 0) 78 dX9_settles_77 rfl rfl rfl ?_
    refine J_callVv 81 dX9_settles_78 rfl kX9_246 mX9_bringsBack rfl rfl rfl (c_X9_bringsBack) (by first | decide | omega) rfl rfl (Nat.le_of_ble_eq_true rfl) (fun s4 h2 => ?_)
    have hbk := h2
    refine J_iload_n (i := 3) 82 dX9_settles_81 rfl rfl rfl ?_
    refine J_if_ge 90 85 dX9_settles_82 rfl rfl (fun c5 => ?_) (fun c5 => ?_)
    · refine J_iload_n (i := 1) 91 dX9_settles_90 rfl rfl rfl ?_
      refine J_if_ne 98 94 dX9_settles_91 rfl rfl (fun c6 => ?_) (fun c6 => ?_)
      · refine J_iload_n (i := 2) 99 dX9_settles_98 rfl rfl rfl ?_
        refine J_iload_n (i := 3) 100 dX9_settles_99 rfl rfl rfl ?_
        refine J_isub 101 dX9_settles_100 rfl ?_
        refine J_iret dX9_settles_101 rfl ?_
        refine ⟨?_, KR_back hkp hb hbk⟩
        rw [hR]
        first | (rw [if_pos (by omega)]; done) | (rw [if_neg (by omega), if_pos (by omega)]; done) | (rw [if_neg (by omega), if_neg (by omega)]; done)
      · refine J_iload_n (i := 3) 95 dX9_settles_94 rfl rfl rfl ?_
        refine J_goto 101 dX9_settles_95 rfl ?_
        refine J_iret dX9_settles_101 rfl ?_
        refine ⟨?_, KR_back hkp hb hbk⟩
        rw [hR]
        first | (rw [if_pos (by omega)]; done) | (rw [if_neg (by omega), if_pos (by omega)]; done) | (rw [if_neg (by omega), if_neg (by omega)]; done)
    · refine J_bipush 87 dX9_settles_85 rfl (by decide) ?_
      refine J_goto 101 dX9_settles_87 rfl ?_
      refine J_iret dX9_settles_101 rfl ?_
      refine ⟨?_, KR_back hkp hb hbk⟩
      rw [hR]
      first | (rw [if_pos (by omega)]; done) | (rw [if_neg (by omega), if_pos (by omega)]; done) | (rw [if_neg (by omega), if_neg (by omega)]; done)
  · refine J_iload_n (i := 2) 37 dX9_settles_36 rfl rfl rfl ?_
    refine J_sipush 40 dX9_settles_37 rfl (by decide) ?_
    refine J_icmp_gt 77 43 dX9_settles_40 rfl rfl (fun c7 => ?_) (fun c7 => ?_)
    · refine J_aload_n (i := 0) 78 dX9_settles_77 rfl rfl rfl ?_
      refine J_callVv 81 dX9_settles_78 rfl kX9_246 mX9_bringsBack rfl rfl rfl (c_X9_bringsBack) (by first | decide | omega) rfl rfl (Nat.le_of_ble_eq_true rfl) (fun s10 h8 => ?_)
      have hbk := h8
      refine J_iload_n (i := 3) 82 dX9_settles_81 rfl rfl rfl ?_
      refine J_if_ge 90 85 dX9_settles_82 rfl rfl (fun c11 => ?_) (fun c11 => ?_)
      · refine J_iload_n (i := 1) 91 dX9_settles_90 rfl rfl rfl ?_
        refine J_if_ne 98 94 dX9_settles_91 rfl rfl (fun c12 => ?_) (fun c12 => ?_)
        · refine J_iload_n (i := 2) 99 dX9_settles_98 rfl rfl rfl ?_
          refine J_iload_n (i := 3) 100 dX9_settles_99 rfl rfl rfl ?_
          refine J_isub 101 dX9_settles_100 rfl ?_
          refine J_iret dX9_settles_101 rfl ?_
          refine ⟨?_, KR_back hkp hb hbk⟩
          rw [hR]
          first | (rw [if_pos (by omega)]; done) | (rw [if_neg (by omega), if_pos (by omega)]; done) | (rw [if_neg (by omega), if_neg (by omega)]; done)
        · refine J_iload_n (i := 3) 95 dX9_settles_94 rfl rfl rfl ?_
          refine J_goto 101 dX9_settles_95 rfl ?_
          refine J_iret dX9_settles_101 rfl ?_
          refine ⟨?_, KR_back hkp hb hbk⟩
          rw [hR]
          first | (rw [if_pos (by omega)]; done) | (rw [if_neg (by omega), if_pos (by omega)]; done) | (rw [if_neg (by omega), if_neg (by omega)]; done)
      · refine J_bipush 87 dX9_settles_85 rfl (by decide) ?_
        refine J_goto 101 dX9_settles_87 rfl ?_
        refine J_iret dX9_settles_101 rfl ?_
        refine ⟨?_, KR_back hkp hb hbk⟩
        rw [hR]
        first | (rw [if_pos (by omega)]; done) | (rw [if_neg (by omega), if_pos (by omega)]; done) | (rw [if_neg (by omega), if_neg (by omega)]; done)
    · exfalso; omega
set_option maxHeartbeats 4000000 in
theorem l_X9_settles {base : jS} {v : jS} (hok : okG base) (hkp : kpI σ (σ 36 1) (σ 36 2) base) (hx : 0 ≤ x ∧ x ≤ 1) : ∀ (k t : Nat) (d : Int) (τ : jS), t + k = 301 → d = t → vR τ = itV v t → (∀ s : Nat, s < t → τ 58 s = numV v s) → τ 41 = base 41 → BDY base τ → J P 6 (RX9, cX9_settles, 4, some .int) 32 [some (vr P 36), some (vi x), some (vi d), some (vi (-9))] [] τ (qi fun z σ' => (if x = 0 then (setT (numV v) k t).1 else (setT (numV v) k t).2) = z ∧ KR σ σ') := by
  intro k
  induction k with
  | zero =>
    intro t d τ hi hd hv hs h41 hb
    refine l_X9_settlesE (v := v) hkp hb hx (by omega) (by omega) (by omega) ?_
    show (if x = 0 then (-9 : Int) else -9) = if (-9 : Int) < 0 then -9 else _
    rw [if_pos (show (-9 : Int) < 0 by omega)]
    split <;> rfl
  | succ k ih =>
    intro t d τ hi hd hv hs h41 hb
    refine J.bd (fun hB => ?_)
    have hokt : okG τ := okG_of hok (hb.2 1 (by omega) (by omega) (by omega)) (hb.2 2 (by omega) (by omega) (by omega)) h41
    have hvB := vR_B hB
    have hn6 : 0 ≤ τ 36 2 ∧ τ 36 2 ≤ 6 := hB 36 2
    have hn7 : nM (vR τ) ≤ 6 := by show (τ 36 2).toNat ≤ 6; omega
    have hnum : digN (vR τ 4) (nM (vR τ)) = numV v t := by unfold numV; rw [hv, itV_n]
    have hnb := digN_m (f := vR τ 4) hvB.2.2.2.2.2.2.2.1 hn7
    rw [hnum] at hnb
    have hle := leastN_le (fun s : Nat => decide (numV v s = numV v t)) t
    have hls : leastN (fun s : Nat => decide (τ 58 s = numV v t)) t = leastN (fun s : Nat => decide (numV v s = numV v t)) t := leastN_congr t (fun i hi => by rw [hs i hi])
    have hst : ∀ s : Nat, s < t + 1 → jup τ 58 d (numV v t) 58 s = numV v s := by
      intro s hst
      by_cases e : s = t
      · rw [e, ← hd, jup_at]
      · rw [jup_ne2 (by omega), hs s (by omega)]
    have evt : vR (jup τ 58 d (numV v t)) = vR τ := vR_congr (fun j _ => rfl) (fun q _ => jup_ne (by omega))
    have hse : ¬ leastN (fun s : Nat => decide (numV v s = numV v t)) t < t → setT (numV v) (k + 1) t = setT (numV v) k (t + 1) := fun h => by simp only [setT]; rw [if_neg h]
    have hsf : leastN (fun s : Nat => decide (numV v s = numV v t)) t < t → setT (numV v) (k + 1) t = ((leastN (fun s => decide (numV v s = numV v t)) t : Int), (t : Int) - (leastN (fun s => decide (numV v s = numV v t)) t : Int)) := fun h => by simp only [setT]; rw [if_pos h]
    by_cases hlt : leastN (fun s : Nat => decide (numV v s = numV v t)) t < t
    · have hres : (if leastN (fun s => decide (τ 58 s = numV v t)) t < t then (leastN (fun s => decide (τ 58 s = numV v t)) t : Int) else -9) = (leastN (fun s => decide (numV v s = numV v t)) t : Int) := by rw [hls, if_pos hlt]
      rw [hsf hlt]
      refine J_iload_n (i := 3) 33 dX9_settles_32 rfl rfl rfl ?_
      refine J_if_ge 77 36 dX9_settles_33 rfl rfl (fun c1 => ?_) (fun c1 => ?_)
      · exfalso; omega
      · refine J_iload_n (i := 2) 37 dX9_settles_36 rfl rfl rfl ?_
        refine J_sipush 40 dX9_settles_37 rfl (by decide) ?_
        refine J_icmp_gt 77 43 dX9_settles_40 rfl rfl (fun c2 => ?_) (fun c2 => ?_)
        · exfalso; omega
        · refine J_aload_n (i := 0) 44 dX9_settles_43 rfl rfl rfl ?_
          refine J_aload_n (i := 0) 45 dX9_settles_44 rfl rfl rfl ?_
          refine J_callVi 48 dX9_settles_45 rfl kX9_284 mX9_showsAsNumber rfl rfl rfl (c_X9_showsAsNumber) (by first | decide | omega) rfl rfl (Nat.le_of_ble_eq_true rfl) (fun z4 s5 h3 => ?_)
          obtain ⟨rfl, rfl⟩ := h3
          refine J.top hnum ?_
          skip
          refine J_iload_n (i := 2) 49 dX9_settles_48 rfl rfl rfl ?_
          refine J_callVi 52 dX9_settles_49 rfl kX9_287 mX9_metBefore rfl rfl rfl (c_X9_metBefore (by omega) (m := t) (by omega) hd) (by first | decide | omega) rfl rfl (Nat.le_of_ble_eq_true rfl) (fun z7 s8 h6 => ?_)
          obtain ⟨rfl, rfl⟩ := h6
          refine J.top hres ?_
          refine J_istore_n (i := 3) 53 dX9_settles_52 rfl rfl (by decide) ?_
          refine J_iload_n (i := 3) 54 dX9_settles_53 rfl rfl rfl ?_
          refine J_if_ge 32 57 dX9_settles_54 rfl rfl (fun c9 => ?_) (fun c9 => ?_)
          · refine l_X9_settlesE (v := v) hkp hb hx (by omega) (by omega) (by omega) ?_
            by_cases hx0 : x = 0
            · rw [if_pos hx0, if_neg (by omega), if_pos hx0]
            · rw [if_neg hx0, if_neg (by omega), if_neg hx0, hd]
          · exfalso; omega
    · have hres : (if leastN (fun s => decide (τ 58 s = numV v t)) t < t then (leastN (fun s => decide (τ 58 s = numV v t)) t : Int) else -9) = -9 := by rw [hls, if_neg hlt]
      rw [hse hlt]
      refine J_iload_n (i := 3) 33 dX9_settles_32 rfl rfl rfl ?_
      refine J_if_ge 77 36 dX9_settles_33 rfl rfl (fun c1 => ?_) (fun c1 => ?_)
      · exfalso; omega
      · refine J_iload_n (i := 2) 37 dX9_settles_36 rfl rfl rfl ?_
        refine J_sipush 40 dX9_settles_37 rfl (by decide) ?_
        refine J_icmp_gt 77 43 dX9_settles_40 rfl rfl (fun c2 => ?_) (fun c2 => ?_)
        · exfalso; omega
        · refine J_aload_n (i := 0) 44 dX9_settles_43 rfl rfl rfl ?_
          refine J_aload_n (i := 0) 45 dX9_settles_44 rfl rfl rfl ?_
          refine J_callVi 48 dX9_settles_45 rfl kX9_284 mX9_showsAsNumber rfl rfl rfl (c_X9_showsAsNumber) (by first | decide | omega) rfl rfl (Nat.le_of_ble_eq_true rfl) (fun z4 s5 h3 => ?_)
          obtain ⟨rfl, rfl⟩ := h3
          refine J.top hnum ?_
          refine J_iload_n (i := 2) 49 dX9_settles_48 rfl rfl rfl ?_
          refine J_callVi 52 dX9_settles_49 rfl kX9_287 mX9_metBefore rfl rfl rfl (c_X9_metBefore (by omega) (m := t) (by omega) hd) (by first | decide | omega) rfl rfl (Nat.le_of_ble_eq_true rfl) (fun z7 s8 h6 => ?_)
          obtain ⟨rfl, rfl⟩ := h6
          refine J.top hres ?_
          refine J_istore_n (i := 3) 53 dX9_settles_52 rfl rfl (by decide) ?_
          refine J_iload_n (i := 3) 54 dX9_settles_53 rfl rfl rfl ?_
          refine J_if_ge 32 57 dX9_settles_54 rfl rfl (fun c9 => ?_) (fun c9 => ?_)
          · first
              | (exfalso; omega)
              | (refine ih (t + 1) _ _ (by omega) (by omega) ?_ ?_ ?_ ?_
                 · rw [hwi.1, evt, hv]; rfl
                 · intro s h
                   rw [hwi.2 58 (by omega) (by omega) (by omega) (by omega)]
                   exact hst s h
                 · rw [hwi.2 41 (by omega) (by omega) (by omega) (by omega)]
                   exact h41
                 · exact BDY_trans hb (BDY_trans (BDY_up (by omega)) (BDY_wi hwi)))
          · refine J_aload_n (i := 0) 58 dX9_settles_57 rfl rfl rfl ?_
            refine J_getR 61 dX9_settles_58 rfl fX9_73 rfl rfl ?_
            refine J_iload_n (i := 2) 62 dX9_settles_61 rfl rfl rfl ?_
            refine J_aload_n (i := 0) 63 dX9_settles_62 rfl rfl rfl ?_
            refine J_callVi 66 dX9_settles_63 rfl kX9_284 mX9_showsAsNumber rfl rfl rfl (c_X9_showsAsNumber) (by first | decide | omega) rfl rfl (Nat.le_of_ble_eq_true rfl) (fun z11 s12 h10 => ?_)
            obtain ⟨rfl, rfl⟩ := h10
            refine J.top hnum ?_
            refine J_iast (N := 301) (lo := 0) (hi := 999999) 67 dX9_settles_66 rfl rfl rfl rfl ?_
            refine J_iinc 70 dX9_settles_67 rfl (by decide) rfl ?_
            refine J_aload_n (i := 0) 71 dX9_settles_70 rfl rfl rfl ?_
            refine J_callVv 74 dX9_settles_71 rfl kX9_290 mX9_wintersOn rfl rfl rfl (c_X9_wintersOn (okG_of hokt rfl rfl rfl)) (by first | decide | omega) rfl rfl (Nat.le_of_ble_eq_true rfl) (fun s15 h13 => ?_)
            have hwi := h13
            refine J_goto 32 dX9_settles_74 rfl ?_
            first
              | (exfalso; omega)
              | (refine ih (t + 1) _ _ (by omega) (by omega) ?_ ?_ ?_ ?_
                 · rw [hwi.1, evt, hv]; rfl
                 · intro s h
                   rw [hwi.2 58 (by omega) (by omega) (by omega) (by omega)]
                   exact hst s h
                 · rw [hwi.2 41 (by omega) (by omega) (by omega) (by omega)]
                   exact h41
                 · exact BDY_trans hb (BDY_trans (BDY_up (by omega)) (BDY_wi hwi)))
theorem c_X9_settles (hok : okG σ) (hx : inR x) : Ct P 6 yX9_settles cX9_settles 4 (some .int) [vr P 36, vi x] σ (qi fun z σ' => (if ¬ (0 ≤ x ∧ x ≤ 1) then -2 else if ¬ 0 < σ 36 2 then -3 else if x = 0 then (setT (numV (vR σ)) 301 0).1 else (setT (numV (vR σ)) 301 0).2) = z ∧ KR σ σ') := by
  refine Ct.bd (fun hB => ?_)
  have hn : 0 ≤ σ 36 2 ∧ σ 36 2 ≤ 6 := hB 36 2
  refine Ct.of _ rfl rfl rfl (Nat.le_of_ble_eq_true rfl) (fun hB => ?_)
  refine J_iload_n (i := 1) 1 dX9_settles_0 rfl rfl rfl ?_
  refine J_i2l 2 dX9_settles_1 rfl ?_
  refine J_lconst (z := 0) 3 dX9_settles_2 rfl rfl ?_
  refine J_lconst (z := 1) 4 dX9_settles_3 rfl rfl ?_
  refine J_callSi 7 dX9_settles_4 rfl kX9_107 mX9_in (c_X9_in) (by first | decide | omega) rfl rfl (Nat.le_of_ble_eq_true rfl) (fun z2 s3 h1 => ?_)
  obtain ⟨rfl, rfl⟩ := h1
  refine J_bif_ne 13 10 dX9_settles_7 rfl rfl (fun c4 => ?_) (fun c4 => ?_)
  · refine J_aload_n (i := 0) 14 dX9_settles_13 rfl rfl rfl ?_
    refine J_getI (jz := 2) (lo := 0) (hi := 6) 17 dX9_settles_14 rfl fX9_104 rfl rfl rfl rfl (fun b5 b6 => ?_)
    refine J_if_ne 23 20 dX9_settles_17 rfl rfl (fun c7 => ?_) (fun c7 => ?_)
    · refine J_aload_n (i := 0) 24 dX9_settles_23 rfl rfl rfl ?_
      refine J_callVv 27 dX9_settles_24 rfl kX9_240 mX9_keeps rfl rfl rfl (c_X9_keeps) (by first | decide | omega) rfl rfl (Nat.le_of_ble_eq_true rfl) (fun s10 h8 => ?_)
      have hkp := h8
      refine J_iconst 28 dX9_settles_27 rfl ?_
      refine J_istore_n (i := 2) 29 dX9_settles_28 rfl rfl (by decide) ?_
      refine J_bipush 31 dX9_settles_29 rfl (by decide) ?_
      refine J_istore_n (i := 3) 32 dX9_settles_31 rfl rfl (by decide) ?_
      rw [if_neg (by omega), if_neg (by omega)]
      exact l_X9_settles (v := vR σ) (okG_kp hkp hok) hkp (by omega) 301 0 _ _ rfl rfl (vR_kp hkp) (fun s h => by omega) rfl (BDY_refl _)
    · refine J_bipush 22 dX9_settles_20 rfl (by decide) ?_
      refine J_iret dX9_settles_22 rfl ?_
      refine ⟨?_, KR_G3 (fun _ _ _ _ => rfl)⟩
      first | rfl | (rw [if_pos (by omega)]; first | done | rfl) | (rw [if_neg (by omega)]; first | done | rfl) | (rw [if_neg (by omega), if_pos (by omega)]; first | done | rfl) | (rw [if_neg (by omega), if_neg (by omega)]; first | done | rfl) | (rw [if_neg (by omega), if_neg (by omega), if_pos (by omega)]; first | done | rfl) | (rw [if_neg (by omega), if_neg (by omega), if_neg (by omega)]; first | done | rfl) | (rw [if_neg (by omega), if_neg (by omega), if_neg (by omega), if_pos (by omega)]; first | done | rfl) | (rw [if_neg (by omega), if_neg (by omega), if_neg (by omega), if_neg (by omega)]; first | done | rfl) | (rw [if_neg (by omega), if_neg (by omega), if_neg (by omega), if_neg (by omega), if_pos (by omega)]; first | done | rfl) | (rw [if_neg (by omega), if_neg (by omega), if_neg (by omega), if_neg (by omega), if_neg (by omega)]; first | done | rfl)
  · refine J_bipush 12 dX9_settles_10 rfl (by decide) ?_
    refine J_iret dX9_settles_12 rfl ?_
    refine ⟨?_, KR_G3 (fun _ _ _ _ => rfl)⟩
    first | rfl | (rw [if_pos (by omega)]; first | done | rfl) | (rw [if_neg (by omega)]; first | done | rfl) | (rw [if_neg (by omega), if_pos (by omega)]; first | done | rfl) | (rw [if_neg (by omega), if_neg (by omega)]; first | done | rfl) | (rw [if_neg (by omega), if_neg (by omega), if_pos (by omega)]; first | done | rfl) | (rw [if_neg (by omega), if_neg (by omega), if_neg (by omega)]; first | done | rfl) | (rw [if_neg (by omega), if_neg (by omega), if_neg (by omega), if_pos (by omega)]; first | done | rfl) | (rw [if_neg (by omega), if_neg (by omega), if_neg (by omega), if_neg (by omega)]; first | done | rfl) | (rw [if_neg (by omega), if_neg (by omega), if_neg (by omega), if_neg (by omega), if_pos (by omega)]; first | done | rfl) | (rw [if_neg (by omega), if_neg (by omega), if_neg (by omega), if_neg (by omega), if_neg (by omega)]; first | done | rfl)
def mrQ (σ : jS) (m : Nat) (τ : jS) : Prop := vR τ = itV (vR σ) m ∧ ∀ q, q ≠ 40 → q ≠ 50 → q ≠ 51 → q ≠ 52 → τ q = σ q
set_option maxHeartbeats 4000000 in
theorem l_X9_more (hok : okG σ) (hx : 1 ≤ x ∧ x ≤ 99) : ∀ (k i : Nat) (d : Int) (τ : jS), i + k = x.toNat → d = i → mrQ σ i τ → J P 6 (RX9, cX9_more, 3, some .int) 27 [some (vr P 36), some (vi x), some (vi d)] [] τ (qi fun z σ' => popM (starvM (itV (vR σ) x.toNat)) = z ∧ mrQ σ x.toNat σ') := by
  intro k
  induction k with
  | zero =>
    intro i d τ hi hd hr
    rw [Nat.add_zero] at hi
    have hokt : okG τ := okG_of hok (by rw [hr.2 36 (by omega) (by omega) (by omega) (by omega)]) (by rw [hr.2 36 (by omega) (by omega) (by omega) (by omega)]) (hr.2 41 (by omega) (by omega) (by omega) (by omega))
    refine J_iload_n (i := 2) 28 dX9_more_27 rfl rfl rfl ?_
    refine J_iload_n (i := 1) 29 dX9_more_28 rfl rfl rfl ?_
    refine J_icmp_ge 42 32 dX9_more_29 rfl rfl (fun c1 => ?_) (fun c1 => ?_)
    · refine J_aload_n (i := 0) 43 dX9_more_42 rfl rfl rfl ?_
      refine J_callVi 46 dX9_more_43 rfl kX9_260 mX9_manyWithout rfl rfl rfl (c_X9_manyWithout hokt) (by first | decide | omega) rfl rfl (Nat.le_of_ble_eq_true rfl) (fun z3 s4 h2 => ?_)
      obtain ⟨rfl, f1⟩ := h2
      refine J_iret dX9_more_46 rfl ?_
      rw [hi] at hr
      exact ⟨by rw [hr.1], (vR_G3 f1).trans hr.1, fun q a b c d => (f1 q b c d).trans (hr.2 q a b c d)⟩
    · exfalso; omega
  | succ k ih =>
    intro i d τ hi hd hr
    have hokt : okG τ := okG_of hok (by rw [hr.2 36 (by omega) (by omega) (by omega) (by omega)]) (by rw [hr.2 36 (by omega) (by omega) (by omega) (by omega)]) (hr.2 41 (by omega) (by omega) (by omega) (by omega))
    refine J_iload_n (i := 2) 28 dX9_more_27 rfl rfl rfl ?_
    refine J_iload_n (i := 1) 29 dX9_more_28 rfl rfl rfl ?_
    refine J_icmp_ge 42 32 dX9_more_29 rfl rfl (fun c1 => ?_) (fun c1 => ?_)
    · exfalso; omega
    · refine J_aload_n (i := 0) 33 dX9_more_32 rfl rfl rfl ?_
      refine J_callVv 36 dX9_more_33 rfl kX9_290 mX9_wintersOn rfl rfl rfl (c_X9_wintersOn hokt) (by first | decide | omega) rfl rfl (Nat.le_of_ble_eq_true rfl) (fun s4 h2 => ?_)
      have hwi := h2
      refine J_iinc 39 dX9_more_36 rfl (by decide) rfl ?_
      refine J_goto 27 dX9_more_39 rfl ?_
      refine ih (i + 1) _ _ (by omega) (by omega) ⟨?_, fun q a b c d => (hwi.2 q a b c d).trans (hr.2 q a b c d)⟩
      rw [hwi.1, hr.1]
      rfl
theorem c_X9_more (hok : okG σ) (hx : inR x) : Ct P 6 yX9_more cX9_more 3 (some .int) [vr P 36, vi x] σ (qi fun z σ' => (if ¬ (1 ≤ x ∧ x ≤ 99) then -2 else if ¬ 0 < σ 36 2 then -3 else popM (starvM (itV (vR σ) x.toNat))) = z ∧ mrQ σ (if (1 ≤ x ∧ x ≤ 99) ∧ 0 < σ 36 2 then x.toNat else 0) σ') := by
  refine Ct.bd (fun hB => ?_)
  have hn : 0 ≤ σ 36 2 ∧ σ 36 2 ≤ 6 := hB 36 2
  refine Ct.of _ rfl rfl rfl (Nat.le_of_ble_eq_true rfl) (fun hB => ?_)
  refine J_iload_n (i := 1) 1 dX9_more_0 rfl rfl rfl ?_
  refine J_i2l 2 dX9_more_1 rfl ?_
  refine J_lconst (z := 1) 3 dX9_more_2 rfl rfl ?_
  refine J_ldc2 6 dX9_more_3 rfl cstX9_293 ?_
  refine J_callSi 9 dX9_more_6 rfl kX9_107 mX9_in (c_X9_in) (by first | decide | omega) rfl rfl (Nat.le_of_ble_eq_true rfl) (fun z2 s3 h1 => ?_)
  obtain ⟨rfl, rfl⟩ := h1
  refine J_bif_ne 15 12 dX9_more_9 rfl rfl (fun c4 => ?_) (fun c4 => ?_)
  · refine J_aload_n (i := 0) 16 dX9_more_15 rfl rfl rfl ?_
    refine J_getI (jz := 2) (lo := 0) (hi := 6) 19 dX9_more_16 rfl fX9_104 rfl rfl rfl rfl (fun b5 b6 => ?_)
    refine J_if_ne 25 22 dX9_more_19 rfl rfl (fun c7 => ?_) (fun c7 => ?_)
    · refine J_iconst 26 dX9_more_25 rfl ?_
      refine J_istore_n (i := 2) 27 dX9_more_26 rfl rfl (by decide) ?_
      rw [if_neg (by omega), if_neg (by omega), if_pos (by omega)]
      exact l_X9_more hok (by omega) _ 0 _ _ (Nat.zero_add _) rfl ⟨rfl, fun _ _ _ _ _ => rfl⟩
    · refine J_bipush 24 dX9_more_22 rfl (by decide) ?_
      refine J_iret dX9_more_24 rfl ?_
      refine ⟨?_, ?_⟩
      · first | rfl | (rw [if_pos (by omega)]; first | done | rfl) | (rw [if_neg (by omega)]; first | done | rfl) | (rw [if_neg (by omega), if_pos (by omega)]; first | done | rfl) | (rw [if_neg (by omega), if_neg (by omega)]; first | done | rfl) | (rw [if_neg (by omega), if_neg (by omega), if_pos (by omega)]; first | done | rfl) | (rw [if_neg (by omega), if_neg (by omega), if_neg (by omega)]; first | done | rfl) | (rw [if_neg (by omega), if_neg (by omega), if_neg (by omega), if_pos (by omega)]; first | done | rfl) | (rw [if_neg (by omega), if_neg (by omega), if_neg (by omega), if_neg (by omega)]; first | done | rfl) | (rw [if_neg (by omega), if_neg (by omega), if_neg (by omega), if_neg (by omega), if_pos (by omega)]; first | done | rfl) | (rw [if_neg (by omega), if_neg (by omega), if_neg (by omega), if_neg (by omega), if_neg (by omega)]; first | done | rfl)
      · rw [if_neg (by omega)]
        exact ⟨rfl, fun _ _ _ _ _ => rfl⟩
  · refine J_bipush 14 dX9_more_12 rfl (by decide) ?_
    refine J_iret dX9_more_14 rfl ?_
    refine ⟨?_, ?_⟩
    · first | rfl | (rw [if_pos (by omega)]; first | done | rfl) | (rw [if_neg (by omega)]; first | done | rfl) | (rw [if_neg (by omega), if_pos (by omega)]; first | done | rfl) | (rw [if_neg (by omega), if_neg (by omega)]; first | done | rfl) | (rw [if_neg (by omega), if_neg (by omega), if_pos (by omega)]; first | done | rfl) | (rw [if_neg (by omega), if_neg (by omega), if_neg (by omega)]; first | done | rfl) | (rw [if_neg (by omega), if_neg (by omega), if_neg (by omega), if_pos (by omega)]; first | done | rfl) | (rw [if_neg (by omega), if_neg (by omega), if_neg (by omega), if_neg (by omega)]; first | done | rfl) | (rw [if_neg (by omega), if_neg (by omega), if_neg (by omega), if_neg (by omega), if_pos (by omega)]; first | done | rfl) | (rw [if_neg (by omega), if_neg (by omega), if_neg (by omega), if_neg (by omega), if_neg (by omega)]; first | done | rfl)
    · rw [if_neg (by omega)]
      exact ⟨rfl, fun _ _ _ _ _ => rfl⟩
end

