/-! ===== the reference: day ===== -/
theorem KR_f {σ τ : jS} (h : KR σ τ) (f : Int) : KR (jup σ 36 0 f) (jup τ 36 0 f) := by
  obtain ⟨h1, h2, h3, h4⟩ := h
  refine ⟨fun q hq => ?_, fun j hj => ?_, fun j a b => h3 j a b, fun q a b j c d => ?_⟩
  · rw [jup_ne (by omega), jup_ne (by omega)]; exact h1 q hq
  · by_cases e : j = 0
    · rw [e, jup_at, jup_at]
    · rw [jup_ne2 e, jup_ne2 e]; exact h2 j hj
  · rw [jup_ne (by omega), jup_ne (by omega)]; exact h4 q a b j c d
theorem KR_refl (σ : jS) : KR σ σ := ⟨fun _ _ => rfl, fun _ _ => rfl, fun _ _ _ => rfl, fun _ _ _ _ _ _ => rfl⟩
def dyE (f : Int → Int) (a : Int) (v : jS) (N : Nat) (y : Int) : Int := if ¬ toldN f a N = true then -2 else if y = 1 then (dayN f a v N).1 else if (dayN f a v N).1 = -9 then askM (dayN f a v N).2 y else -100 - (dayN f a v N).1
def eRDay (σ : jS) (v : jS) (k l i n x : Int) : Int := if ¬ (0 ≤ k ∧ k < 4) then -1 else if ¬ ((0 ≤ l ∧ l ≤ 2) ∧ (0 ≤ n ∧ n ≤ 20) ∧ ((0 ≤ x ∧ x ≤ 4) ∨ (10 ≤ x ∧ x < 16))) then -2 else if ¬ 0 < v 0 1 then -3 else if ¬ fR σ k l i (2 * n) = 0 then -10 - fR σ k l i (2 * n) else dyE (σ 63) (60 * k + i) v n.toNat x
def fRDay (σ : jS) (v : jS) (k l i n x : Int) : Int := if ¬ (0 ≤ k ∧ k < 4) then 0 else if ¬ ((0 ≤ l ∧ l ≤ 2) ∧ (0 ≤ n ∧ n ≤ 20) ∧ ((0 ≤ x ∧ x ≤ 4) ∨ (10 ≤ x ∧ x < 16))) then 0 else if ¬ 0 < v 0 1 then 0 else fR σ k l i (2 * n)
section
variable {P : jP} {w o : Nat} {a b c d g x y z n s i j k l : Int} {σ τ v : jS}
theorem c_X9_refusedU : Ct P 1 yX9_refused cX9_refused 2 (some .int) [vr P 36, vi x] σ (rI x (jup σ 36 0 0)) := by
  refine Ct.of _ rfl rfl rfl (Nat.le_of_ble_eq_true rfl) (fun hB => ?_)
  refine J_aload_n (i := 0) 1 dX9_refused_0 rfl rfl rfl ?_
  refine J_iconst 2 dX9_refused_1 rfl ?_
  refine J_putI (jz := 0) (lo := 0) (hi := 4) 5 dX9_refused_2 rfl gX9_96 rfl rfl rfl rfl ?_
  refine J_iload_n (i := 1) 6 dX9_refused_5 rfl rfl rfl ?_
  refine J_iret dX9_refused_6 rfl ?_
  first | exact ⟨rfl, rfl⟩ | exact rfl | exact ⟨b01_t (by omega), rfl⟩ | exact ⟨b01_f (by omega), rfl⟩ | exact ⟨by omega, rfl⟩
set_option maxHeartbeats 4000000 in
theorem l_X9_dayL {N : Nat} {r : Int} (hok : okG σ) (hn : 0 < σ 36 2) (hN : N ≤ 20) (hx : 0 ≤ x ∧ x < 4) (hi : 0 ≤ i ∧ i + 2 * N ≤ 60) (hy : (0 ≤ y ∧ y ≤ 4) ∨ (10 ≤ y ∧ y ≤ 15)) (ha : a = 60 * x + i) : ∀ (k p : Nat) (d : Int), p + k = N → d = p → toldN (σ 63) a p = true → J P 6 (RX9, cX9_day, 9, some .int) 122 [some (vr P 36), some (vi x), some (vi l), some (vi i), some (vi (N : Int)), some (vi y), some (vi r), some (vi a), some (vi d)] [] σ (qi fun z σ' => dyE (σ 63) a (vR σ) N y = z ∧ KR (jup σ 36 0 0) σ') := by
  intro k
  induction k with
  | zero =>
    intro p d hp hd ht
    rw [Nat.add_zero] at hp
    subst hp
    refine J_iload 124 dX9_day_122 rfl rfl ?_
    refine J_iload 126 dX9_day_124 rfl rfl ?_
    refine J_icmp_ge 174 129 dX9_day_126 rfl rfl (fun c1 => ?_) (fun c1 => ?_)
    · refine J_aload_n (i := 0) 175 dX9_day_174 rfl rfl rfl ?_
      refine J_callVv 178 dX9_day_175 rfl kX9_240 mX9_keeps rfl rfl rfl (c_X9_keeps) (by first | decide | omega) rfl rfl (Nat.le_of_ble_eq_true rfl) (fun s4 h2 => ?_)
      have hkp := h2
      have kn := hkp.2.2.1 2 (by omega) (by omega)
      have k63 := hkp.2.2.2.2.2 63 (by omega) (by omega) (by omega) (by omega)
      refine J_aload_n (i := 0) 179 dX9_day_178 rfl rfl rfl ?_
      refine J_iload 181 dX9_day_179 rfl rfl ?_
      refine J_iload 183 dX9_day_181 rfl rfl ?_
      refine J_iload 185 dX9_day_183 rfl rfl ?_
      refine J_callVi 188 dX9_day_185 rfl kX9_243 mX9_dayOf rfl rfl rfl (c_X9_dayOf (N := p) (by omega) (by omega) hy (by rw [kn]; exact hn) (by rw [k63]; exact ht) (okG_kp hkp hok)) (by first | decide | omega) rfl rfl (Nat.le_of_ble_eq_true rfl) (fun z6 s7 h5 => ?_)
      obtain ⟨hz, hb⟩ := h5
      rw [k63, vR_kp hkp] at hz
      refine J_istore 190 dX9_day_188 rfl (by decide) ?_
      refine J_aload_n (i := 0) 191 dX9_day_190 rfl rfl rfl ?_
      refine J_callVv 194 dX9_day_191 rfl kX9_246 mX9_bringsBack rfl rfl rfl (c_X9_bringsBack) (by first | decide | omega) rfl rfl (Nat.le_of_ble_eq_true rfl) (fun s10 h8 => ?_)
      have hbk := h8
      refine J_aload_n (i := 0) 195 dX9_day_194 rfl rfl rfl ?_
      refine J_iload 197 dX9_day_195 rfl rfl ?_
      refine J_callVi 200 dX9_day_197 rfl kX9_150 mX9_refused rfl rfl rfl (c_X9_refusedU) (by first | decide | omega) rfl rfl (Nat.le_of_ble_eq_true rfl) (fun z12 s13 h11 => ?_)
      obtain ⟨rfl, rfl⟩ := h11
      refine J_iret dX9_day_200 rfl ?_
      refine ⟨?_, KR_f (KR_back hkp hb hbk) 0⟩
      rw [← hz]
      unfold dyE
      rw [if_neg (fun h => h ht)]
    · exfalso; omega
  | succ k ih =>
    intro p d hp hd ht
    subst hd
    have hiff : pairF (σ 63) a p = true ↔ (0 ≤ σ 63 (a + 2 * p) ∧ σ 63 (a + 2 * p) ≤ mostM (σ 63 (a + 2 * p + 1))) := by unfold pairF; exact decide_eq_true_iff
    refine J_iload 124 dX9_day_122 rfl rfl ?_
    refine J_iload 126 dX9_day_124 rfl rfl ?_
    refine J_icmp_ge 174 129 dX9_day_126 rfl rfl (fun c1 => ?_) (fun c1 => ?_)
    · exfalso; omega
    · refine J_aload_n (i := 0) 130 dX9_day_129 rfl rfl rfl ?_
      refine J_getR 133 dX9_day_130 rfl fX9_88 rfl rfl ?_
      refine J_iload 135 dX9_day_133 rfl rfl ?_
      refine J_iconst 136 dX9_day_135 rfl ?_
      refine J_iload 138 dX9_day_136 rfl rfl ?_
      refine J_imul 139 dX9_day_138 rfl ?_
      refine J_iadd 140 dX9_day_139 rfl ?_
      refine J_iald (N := 240) (lo := (-2147483648)) (hi := 2147483647) 141 dX9_day_140 rfl rfl rfl rfl (fun b2 b3 => ?_)
      refine J_aload_n (i := 0) 142 dX9_day_141 rfl rfl rfl ?_
      refine J_getR 145 dX9_day_142 rfl fX9_88 rfl rfl ?_
      refine J_iload 147 dX9_day_145 rfl rfl ?_
      refine J_iconst 148 dX9_day_147 rfl ?_
      refine J_iload 150 dX9_day_148 rfl rfl ?_
      refine J_imul 151 dX9_day_150 rfl ?_
      refine J_iadd 152 dX9_day_151 rfl ?_
      refine J_iconst 153 dX9_day_152 rfl ?_
      refine J_iadd 154 dX9_day_153 rfl ?_
      refine J_iald (N := 240) (lo := (-2147483648)) (hi := 2147483647) 155 dX9_day_154 rfl rfl rfl rfl (fun b4 b5 => ?_)
      refine J_callSi 158 dX9_day_155 rfl kX9_237 mX9_isAsTold (c_X9_isAsTold) (by first | decide | omega) rfl rfl (Nat.le_of_ble_eq_true rfl) (fun z7 s8 h6 => ?_)
      obtain ⟨rfl, rfl⟩ := h6
      refine J_bif_ne 168 161 dX9_day_158 rfl rfl (fun c9 => ?_) (fun c9 => ?_)
      · refine J_iinc 171 dX9_day_168 rfl (by decide) rfl ?_
        refine J_goto 122 dX9_day_171 rfl ?_
        refine ih (p + 1) _ (by omega) (by omega) ?_
        simp only [toldN]
        rw [ht, hiff.mpr (by omega)]
        rfl
      · refine J_aload_n (i := 0) 162 dX9_day_161 rfl rfl rfl ?_
        refine J_bipush 164 dX9_day_162 rfl (by decide) ?_
        refine J_callVi 167 dX9_day_164 rfl kX9_150 mX9_refused rfl rfl rfl (c_X9_refused) (by first | decide | omega) rfl rfl (Nat.le_of_ble_eq_true rfl) (fun z11 s12 h10 => ?_)
        obtain ⟨rfl, rfl⟩ := h10
        refine J_iret dX9_day_167 rfl ?_
        refine ⟨?_, KR_refl _⟩
        unfold dyE
        rw [if_pos (told_no (p := p) (fun h => by have := hiff.mp h; omega) N (by omega))]
set_option maxHeartbeats 4000000 in
theorem c_X9_day (hok : okG σ) (hx : inR x) (hl : inR l) (hi : inR i) (hn : inR n) (hy : inR y) : Ct P 6 yX9_day cX9_day 9 (some .int) [vr P 36, vi x, vi l, vi i, vi n, vi y] σ (qi fun z σ' => eRDay σ (vR σ) x l i n y = z ∧ KR (jup σ 36 0 (fRDay σ (vR σ) x l i n y)) σ') := by
  refine Ct.bd (fun hB => ?_)
  have hfb := fR_b σ x l i (2 * n)
  have en : vR σ 0 1 = σ 36 2 := rfl
  have h61 : -1 ≤ σ 61 x ∧ σ 61 x ≤ 60 := hB 61 x
  have hn6 : 0 ≤ σ 36 2 ∧ σ 36 2 ≤ 6 := hB 36 2
  have hf0 : fR σ x l i (2 * n) = 0 → 0 ≤ i ∧ i + 2 * n ≤ σ 61 x ∧ 0 ≤ n := by
    intro h
    unfold fR at h
    repeat' split at h
    all_goals omega
  by_cases hz : fR σ x l i (2 * n) = 0
  · have hz1 := hf0 hz
    refine Ct.of _ rfl rfl rfl (Nat.le_of_ble_eq_true rfl) (fun hB => ?_)
    refine J_iload_n (i := 1) 1 dX9_day_0 rfl rfl rfl ?_
    refine J_callSi 4 dX9_day_1 rfl kX9_146 mX9_noSheet (c_X9_noSheet) (by first | decide | omega) rfl rfl (Nat.le_of_ble_eq_true rfl) (fun z2 s3 h1 => ?_)
    obtain ⟨rfl, rfl⟩ := h1
    refine J_bif_eq 13 7 dX9_day_4 rfl rfl (fun c4 => ?_) (fun c4 => ?_)
    · refine J_iload_n (i := 2) 14 dX9_day_13 rfl rfl rfl ?_
      refine J_i2l 15 dX9_day_14 rfl ?_
      refine J_lconst (z := 0) 16 dX9_day_15 rfl rfl ?_
      refine J_ldc2 19 dX9_day_16 rfl cstX9_153 ?_
      refine J_callSi 22 dX9_day_19 rfl kX9_107 mX9_in (c_X9_in) (by first | decide | omega) rfl rfl (Nat.le_of_ble_eq_true rfl) (fun z6 s7 h5 => ?_)
      obtain ⟨rfl, rfl⟩ := h5
      refine J_bif_eq 66 25 dX9_day_22 rfl rfl (fun c8 => ?_) (fun c8 => ?_)
      · refine J_aload_n (i := 0) 67 dX9_day_66 rfl rfl rfl ?_
        refine J_bipush 69 dX9_day_67 rfl (by decide) ?_
        refine J_callVi 72 dX9_day_69 rfl kX9_150 mX9_refused rfl rfl rfl (c_X9_refused) (by first | decide | omega) rfl rfl (Nat.le_of_ble_eq_true rfl) (fun z10 s11 h9 => ?_)
        obtain ⟨rfl, rfl⟩ := h9
        refine J_iret dX9_day_72 rfl ?_
        refine ⟨?_, ?_⟩
        · unfold eRDay
          first | rfl | (rw [if_pos (by omega)]; first | done | rfl) | (rw [if_neg (by omega)]; first | done | rfl) | (rw [if_neg (by omega), if_pos (by omega)]; first | done | rfl) | (rw [if_neg (by omega), if_neg (by omega)]; first | done | rfl) | (rw [if_neg (by omega), if_neg (by omega), if_pos (by omega)]; first | done | rfl) | (rw [if_neg (by omega), if_neg (by omega), if_neg (by omega)]; first | done | rfl) | (rw [if_neg (by omega), if_neg (by omega), if_neg (by omega), if_pos (by omega)]; first | done | rfl) | (rw [if_neg (by omega), if_neg (by omega), if_neg (by omega), if_neg (by omega)]; first | done | rfl) | (rw [if_neg (by omega), if_neg (by omega), if_neg (by omega), if_neg (by omega), if_pos (by omega)]; first | done | rfl) | (rw [if_neg (by omega), if_neg (by omega), if_neg (by omega), if_neg (by omega), if_neg (by omega)]; first | done | rfl)
        · unfold fRDay
          first | (rw [if_pos (by omega)]; exact KR_refl _) | (rw [if_neg (by omega), if_pos (by omega)]; exact KR_refl _) | (rw [if_neg (by omega), if_neg (by omega), if_pos (by omega)]; exact KR_refl _)
      · refine J_iload 27 dX9_day_25 rfl rfl ?_
        refine J_i2l 28 dX9_day_27 rfl ?_
        refine J_lconst (z := 0) 29 dX9_day_28 rfl rfl ?_
        refine J_ldc2 32 dX9_day_29 rfl cstX9_229 ?_
        refine J_callSi 35 dX9_day_32 rfl kX9_107 mX9_in (c_X9_in) (by first | decide | omega) rfl rfl (Nat.le_of_ble_eq_true rfl) (fun z13 s14 h12 => ?_)
        obtain ⟨rfl, rfl⟩ := h12
        refine J_bif_eq 66 38 dX9_day_35 rfl rfl (fun c15 => ?_) (fun c15 => ?_)
        · refine J_aload_n (i := 0) 67 dX9_day_66 rfl rfl rfl ?_
          refine J_bipush 69 dX9_day_67 rfl (by decide) ?_
          refine J_callVi 72 dX9_day_69 rfl kX9_150 mX9_refused rfl rfl rfl (c_X9_refused) (by first | decide | omega) rfl rfl (Nat.le_of_ble_eq_true rfl) (fun z17 s18 h16 => ?_)
          obtain ⟨rfl, rfl⟩ := h16
          refine J_iret dX9_day_72 rfl ?_
          refine ⟨?_, ?_⟩
          · unfold eRDay
            first | rfl | (rw [if_pos (by omega)]; first | done | rfl) | (rw [if_neg (by omega)]; first | done | rfl) | (rw [if_neg (by omega), if_pos (by omega)]; first | done | rfl) | (rw [if_neg (by omega), if_neg (by omega)]; first | done | rfl) | (rw [if_neg (by omega), if_neg (by omega), if_pos (by omega)]; first | done | rfl) | (rw [if_neg (by omega), if_neg (by omega), if_neg (by omega)]; first | done | rfl) | (rw [if_neg (by omega), if_neg (by omega), if_neg (by omega), if_pos (by omega)]; first | done | rfl) | (rw [if_neg (by omega), if_neg (by omega), if_neg (by omega), if_neg (by omega)]; first | done | rfl) | (rw [if_neg (by omega), if_neg (by omega), if_neg (by omega), if_neg (by omega), if_pos (by omega)]; first | done | rfl) | (rw [if_neg (by omega), if_neg (by omega), if_neg (by omega), if_neg (by omega), if_neg (by omega)]; first | done | rfl)
          · unfold fRDay
            first | (rw [if_pos (by omega)]; exact KR_refl _) | (rw [if_neg (by omega), if_pos (by omega)]; exact KR_refl _) | (rw [if_neg (by omega), if_neg (by omega), if_pos (by omega)]; exact KR_refl _)
        · refine J_iload 40 dX9_day_38 rfl rfl ?_
          refine J_i2l 41 dX9_day_40 rfl ?_
          refine J_lconst (z := 0) 42 dX9_day_41 rfl rfl ?_
          refine J_ldc2 45 dX9_day_42 rfl cstX9_231 ?_
          refine J_callSi 48 dX9_day_45 rfl kX9_107 mX9_in (c_X9_in) (by first | decide | omega) rfl rfl (Nat.le_of_ble_eq_true rfl) (fun z20 s21 h19 => ?_)
          obtain ⟨rfl, rfl⟩ := h19
          refine J_bif_ne 73 51 dX9_day_48 rfl rfl (fun c22 => ?_) (fun c22 => ?_)
          · refine J_aload_n (i := 0) 74 dX9_day_73 rfl rfl rfl ?_
            refine J_getI (jz := 2) (lo := 0) (hi := 6) 77 dX9_day_74 rfl fX9_104 rfl rfl rfl rfl (fun b23 b24 => ?_)
            refine J_if_ne 87 80 dX9_day_77 rfl rfl (fun c25 => ?_) (fun c25 => ?_)
            · refine J_aload_n (i := 0) 88 dX9_day_87 rfl rfl rfl ?_
              refine J_iload_n (i := 1) 89 dX9_day_88 rfl rfl rfl ?_
              refine J_iload_n (i := 2) 90 dX9_day_89 rfl rfl rfl ?_
              refine J_iload_n (i := 3) 91 dX9_day_90 rfl rfl rfl ?_
              refine J_ldc2 94 dX9_day_91 rfl cstX9_153 ?_
              refine J_iload 96 dX9_day_94 rfl rfl ?_
              refine J_i2l 97 dX9_day_96 rfl ?_
              refine J_lmul 98 dX9_day_97 rfl ?_
              refine J_callVi 101 dX9_day_98 rfl kX9_155 mX9_cellsBarred rfl rfl rfl (c_X9_cellsBarred (by omega) (by omega) (by omega) (by omega)) (by first | decide | omega) rfl rfl (Nat.le_of_ble_eq_true rfl) (fun z27 s28 h26 => ?_)
              obtain ⟨rfl, rfl⟩ := h26
              refine J.st (if_pos hz) ?_
              refine J.top (if_pos hz) ?_
              refine J_istore 103 dX9_day_101 rfl (by decide) ?_
              refine J_iload 105 dX9_day_103 rfl rfl ?_
              refine J_if_ge 111 108 dX9_day_105 rfl rfl (fun c29 => ?_) (fun c29 => ?_)
              · refine J_bipush 113 dX9_day_111 rfl (by decide) ?_
                refine J_iload_n (i := 1) 114 dX9_day_113 rfl rfl rfl ?_
                refine J_imul 115 dX9_day_114 rfl ?_
                refine J_iload_n (i := 3) 116 dX9_day_115 rfl rfl rfl ?_
                refine J_iadd 117 dX9_day_116 rfl ?_
                refine J_istore 119 dX9_day_117 rfl (by decide) ?_
                refine J_iconst 120 dX9_day_119 rfl ?_
                refine J_istore 122 dX9_day_120 rfl (by decide) ?_
                obtain ⟨N, rfl⟩ : ∃ N : Nat, n = (N : Int) := ⟨n.toNat, by omega⟩
                unfold eRDay fRDay
                rw [if_neg (by omega), if_neg (by omega), if_neg (by omega), if_neg (by omega), if_neg (by omega), if_neg (by omega), if_neg (by omega), hz]
                exact l_X9_dayL (N := N) hok (by omega) (by omega) (by omega) (by omega) (by omega) rfl N 0 _ (Nat.zero_add _) rfl rfl
              · exfalso; omega
            · refine J_aload_n (i := 0) 81 dX9_day_80 rfl rfl rfl ?_
              refine J_bipush 83 dX9_day_81 rfl (by decide) ?_
              refine J_callVi 86 dX9_day_83 rfl kX9_150 mX9_refused rfl rfl rfl (c_X9_refused) (by first | decide | omega) rfl rfl (Nat.le_of_ble_eq_true rfl) (fun z31 s32 h30 => ?_)
              obtain ⟨rfl, rfl⟩ := h30
              refine J_iret dX9_day_86 rfl ?_
              refine ⟨?_, ?_⟩
              · unfold eRDay
                first | rfl | (rw [if_pos (by omega)]; first | done | rfl) | (rw [if_neg (by omega)]; first | done | rfl) | (rw [if_neg (by omega), if_pos (by omega)]; first | done | rfl) | (rw [if_neg (by omega), if_neg (by omega)]; first | done | rfl) | (rw [if_neg (by omega), if_neg (by omega), if_pos (by omega)]; first | done | rfl) | (rw [if_neg (by omega), if_neg (by omega), if_neg (by omega)]; first | done | rfl) | (rw [if_neg (by omega), if_neg (by omega), if_neg (by omega), if_pos (by omega)]; first | done | rfl) | (rw [if_neg (by omega), if_neg (by omega), if_neg (by omega), if_neg (by omega)]; first | done | rfl) | (rw [if_neg (by omega), if_neg (by omega), if_neg (by omega), if_neg (by omega), if_pos (by omega)]; first | done | rfl) | (rw [if_neg (by omega), if_neg (by omega), if_neg (by omega), if_neg (by omega), if_neg (by omega)]; first | done | rfl)
              · unfold fRDay
                first | (rw [if_pos (by omega)]; exact KR_refl _) | (rw [if_neg (by omega), if_pos (by omega)]; exact KR_refl _) | (rw [if_neg (by omega), if_neg (by omega), if_pos (by omega)]; exact KR_refl _)
          · refine J_iload 53 dX9_day_51 rfl rfl ?_
            refine J_i2l 54 dX9_day_53 rfl ?_
            refine J_ldc2 57 dX9_day_54 rfl cstX9_233 ?_
            refine J_ldc2 60 dX9_day_57 rfl cstX9_235 ?_
            refine J_callSi 63 dX9_day_60 rfl kX9_107 mX9_in (c_X9_in) (by first | decide | omega) rfl rfl (Nat.le_of_ble_eq_true rfl) (fun z34 s35 h33 => ?_)
            obtain ⟨rfl, rfl⟩ := h33
            refine J_bif_ne 73 66 dX9_day_63 rfl rfl (fun c36 => ?_) (fun c36 => ?_)
            · refine J_aload_n (i := 0) 74 dX9_day_73 rfl rfl rfl ?_
              refine J_getI (jz := 2) (lo := 0) (hi := 6) 77 dX9_day_74 rfl fX9_104 rfl rfl rfl rfl (fun b37 b38 => ?_)
              refine J_if_ne 87 80 dX9_day_77 rfl rfl (fun c39 => ?_) (fun c39 => ?_)
              · refine J_aload_n (i := 0) 88 dX9_day_87 rfl rfl rfl ?_
                refine J_iload_n (i := 1) 89 dX9_day_88 rfl rfl rfl ?_
                refine J_iload_n (i := 2) 90 dX9_day_89 rfl rfl rfl ?_
                refine J_iload_n (i := 3) 91 dX9_day_90 rfl rfl rfl ?_
                refine J_ldc2 94 dX9_day_91 rfl cstX9_153 ?_
                refine J_iload 96 dX9_day_94 rfl rfl ?_
                refine J_i2l 97 dX9_day_96 rfl ?_
                refine J_lmul 98 dX9_day_97 rfl ?_
                refine J_callVi 101 dX9_day_98 rfl kX9_155 mX9_cellsBarred rfl rfl rfl (c_X9_cellsBarred (by omega) (by omega) (by omega) (by omega)) (by first | decide | omega) rfl rfl (Nat.le_of_ble_eq_true rfl) (fun z41 s42 h40 => ?_)
                obtain ⟨rfl, rfl⟩ := h40
                refine J.st (if_pos hz) ?_
                refine J.top (if_pos hz) ?_
                refine J_istore 103 dX9_day_101 rfl (by decide) ?_
                refine J_iload 105 dX9_day_103 rfl rfl ?_
                refine J_if_ge 111 108 dX9_day_105 rfl rfl (fun c43 => ?_) (fun c43 => ?_)
                · refine J_bipush 113 dX9_day_111 rfl (by decide) ?_
                  refine J_iload_n (i := 1) 114 dX9_day_113 rfl rfl rfl ?_
                  refine J_imul 115 dX9_day_114 rfl ?_
                  refine J_iload_n (i := 3) 116 dX9_day_115 rfl rfl rfl ?_
                  refine J_iadd 117 dX9_day_116 rfl ?_
                  refine J_istore 119 dX9_day_117 rfl (by decide) ?_
                  refine J_iconst 120 dX9_day_119 rfl ?_
                  refine J_istore 122 dX9_day_120 rfl (by decide) ?_
                  obtain ⟨N, rfl⟩ : ∃ N : Nat, n = (N : Int) := ⟨n.toNat, by omega⟩
                  unfold eRDay fRDay
                  rw [if_neg (by omega), if_neg (by omega), if_neg (by omega), if_neg (by omega), if_neg (by omega), if_neg (by omega), if_neg (by omega), hz]
                  exact l_X9_dayL (N := N) hok (by omega) (by omega) (by omega) (by omega) (by omega) rfl N 0 _ (Nat.zero_add _) rfl rfl
                · exfalso; omega
              · refine J_aload_n (i := 0) 81 dX9_day_80 rfl rfl rfl ?_
                refine J_bipush 83 dX9_day_81 rfl (by decide) ?_
                refine J_callVi 86 dX9_day_83 rfl kX9_150 mX9_refused rfl rfl rfl (c_X9_refused) (by first | decide | omega) rfl rfl (Nat.le_of_ble_eq_true rfl) (fun z45 s46 h44 => ?_)
                obtain ⟨rfl, rfl⟩ := h44
                refine J_iret dX9_day_86 rfl ?_
                refine ⟨?_, ?_⟩
                · unfold eRDay
                  first | rfl | (rw [if_pos (by omega)]; first | done | rfl) | (rw [if_neg (by omega)]; first | done | rfl) | (rw [if_neg (by omega), if_pos (by omega)]; first | done | rfl) | (rw [if_neg (by omega), if_neg (by omega)]; first | done | rfl) | (rw [if_neg (by omega), if_neg (by omega), if_pos (by omega)]; first | done | rfl) | (rw [if_neg (by omega), if_neg (by omega), if_neg (by omega)]; first | done | rfl) | (rw [if_neg (by omega), if_neg (by omega), if_neg (by omega), if_pos (by omega)]; first | done | rfl) | (rw [if_neg (by omega), if_neg (by omega), if_neg (by omega), if_neg (by omega)]; first | done | rfl) | (rw [if_neg (by omega), if_neg (by omega), if_neg (by omega), if_neg (by omega), if_pos (by omega)]; first | done | rfl) | (rw [if_neg (by omega), if_neg (by omega), if_neg (by omega), if_neg (by omega), if_neg (by omega)]; first | done | rfl)
                · unfold fRDay
                  first | (rw [if_pos (by omega)]; exact KR_refl _) | (rw [if_neg (by omega), if_pos (by omega)]; exact KR_refl _) | (rw [if_neg (by omega), if_neg (by omega), if_pos (by omega)]; exact KR_refl _)
            · refine J_aload_n (i := 0) 67 dX9_day_66 rfl rfl rfl ?_
              refine J_bipush 69 dX9_day_67 rfl (by decide) ?_
              refine J_callVi 72 dX9_day_69 rfl kX9_150 mX9_refused rfl rfl rfl (c_X9_refused) (by first | decide | omega) rfl rfl (Nat.le_of_ble_eq_true rfl) (fun z48 s49 h47 => ?_)
              obtain ⟨rfl, rfl⟩ := h47
              refine J_iret dX9_day_72 rfl ?_
              refine ⟨?_, ?_⟩
              · unfold eRDay
                first | rfl | (rw [if_pos (by omega)]; first | done | rfl) | (rw [if_neg (by omega)]; first | done | rfl) | (rw [if_neg (by omega), if_pos (by omega)]; first | done | rfl) | (rw [if_neg (by omega), if_neg (by omega)]; first | done | rfl) | (rw [if_neg (by omega), if_neg (by omega), if_pos (by omega)]; first | done | rfl) | (rw [if_neg (by omega), if_neg (by omega), if_neg (by omega)]; first | done | rfl) | (rw [if_neg (by omega), if_neg (by omega), if_neg (by omega), if_pos (by omega)]; first | done | rfl) | (rw [if_neg (by omega), if_neg (by omega), if_neg (by omega), if_neg (by omega)]; first | done | rfl) | (rw [if_neg (by omega), if_neg (by omega), if_neg (by omega), if_neg (by omega), if_pos (by omega)]; first | done | rfl) | (rw [if_neg (by omega), if_neg (by omega), if_neg (by omega), if_neg (by omega), if_neg (by omega)]; first | done | rfl)
              · unfold fRDay
                first | (rw [if_pos (by omega)]; exact KR_refl _) | (rw [if_neg (by omega), if_pos (by omega)]; exact KR_refl _) | (rw [if_neg (by omega), if_neg (by omega), if_pos (by omega)]; exact KR_refl _)
    · refine J_aload_n (i := 0) 8 dX9_day_7 rfl rfl rfl ?_
      refine J_iconst 9 dX9_day_8 rfl ?_
      refine J_callVi 12 dX9_day_9 rfl kX9_150 mX9_refused rfl rfl rfl (c_X9_refused) (by first | decide | omega) rfl rfl (Nat.le_of_ble_eq_true rfl) (fun z51 s52 h50 => ?_)
      obtain ⟨rfl, rfl⟩ := h50
      refine J_iret dX9_day_12 rfl ?_
      refine ⟨?_, ?_⟩
      · unfold eRDay
        first | rfl | (rw [if_pos (by omega)]; first | done | rfl) | (rw [if_neg (by omega)]; first | done | rfl) | (rw [if_neg (by omega), if_pos (by omega)]; first | done | rfl) | (rw [if_neg (by omega), if_neg (by omega)]; first | done | rfl) | (rw [if_neg (by omega), if_neg (by omega), if_pos (by omega)]; first | done | rfl) | (rw [if_neg (by omega), if_neg (by omega), if_neg (by omega)]; first | done | rfl) | (rw [if_neg (by omega), if_neg (by omega), if_neg (by omega), if_pos (by omega)]; first | done | rfl) | (rw [if_neg (by omega), if_neg (by omega), if_neg (by omega), if_neg (by omega)]; first | done | rfl) | (rw [if_neg (by omega), if_neg (by omega), if_neg (by omega), if_neg (by omega), if_pos (by omega)]; first | done | rfl) | (rw [if_neg (by omega), if_neg (by omega), if_neg (by omega), if_neg (by omega), if_neg (by omega)]; first | done | rfl)
      · unfold fRDay
        first | (rw [if_pos (by omega)]; exact KR_refl _) | (rw [if_neg (by omega), if_pos (by omega)]; exact KR_refl _) | (rw [if_neg (by omega), if_neg (by omega), if_pos (by omega)]; exact KR_refl _)
  · 
    refine Ct.of _ rfl rfl rfl (Nat.le_of_ble_eq_true rfl) (fun hB => ?_)
    refine J_iload_n (i := 1) 1 dX9_day_0 rfl rfl rfl ?_
    refine J_callSi 4 dX9_day_1 rfl kX9_146 mX9_noSheet (c_X9_noSheet) (by first | decide | omega) rfl rfl (Nat.le_of_ble_eq_true rfl) (fun z2 s3 h1 => ?_)
    obtain ⟨rfl, rfl⟩ := h1
    refine J_bif_eq 13 7 dX9_day_4 rfl rfl (fun c4 => ?_) (fun c4 => ?_)
    · refine J_iload_n (i := 2) 14 dX9_day_13 rfl rfl rfl ?_
      refine J_i2l 15 dX9_day_14 rfl ?_
      refine J_lconst (z := 0) 16 dX9_day_15 rfl rfl ?_
      refine J_ldc2 19 dX9_day_16 rfl cstX9_153 ?_
      refine J_callSi 22 dX9_day_19 rfl kX9_107 mX9_in (c_X9_in) (by first | decide | omega) rfl rfl (Nat.le_of_ble_eq_true rfl) (fun z6 s7 h5 => ?_)
      obtain ⟨rfl, rfl⟩ := h5
      refine J_bif_eq 66 25 dX9_day_22 rfl rfl (fun c8 => ?_) (fun c8 => ?_)
      · refine J_aload_n (i := 0) 67 dX9_day_66 rfl rfl rfl ?_
        refine J_bipush 69 dX9_day_67 rfl (by decide) ?_
        refine J_callVi 72 dX9_day_69 rfl kX9_150 mX9_refused rfl rfl rfl (c_X9_refused) (by first | decide | omega) rfl rfl (Nat.le_of_ble_eq_true rfl) (fun z10 s11 h9 => ?_)
        obtain ⟨rfl, rfl⟩ := h9
        refine J_iret dX9_day_72 rfl ?_
        refine ⟨?_, ?_⟩
        · unfold eRDay
          first | rfl | (rw [if_pos (by omega)]; first | done | rfl) | (rw [if_neg (by omega)]; first | done | rfl) | (rw [if_neg (by omega), if_pos (by omega)]; first | done | rfl) | (rw [if_neg (by omega), if_neg (by omega)]; first | done | rfl) | (rw [if_neg (by omega), if_neg (by omega), if_pos (by omega)]; first | done | rfl) | (rw [if_neg (by omega), if_neg (by omega), if_neg (by omega)]; first | done | rfl) | (rw [if_neg (by omega), if_neg (by omega), if_neg (by omega), if_pos (by omega)]; first | done | rfl) | (rw [if_neg (by omega), if_neg (by omega), if_neg (by omega), if_neg (by omega)]; first | done | rfl) | (rw [if_neg (by omega), if_neg (by omega), if_neg (by omega), if_neg (by omega), if_pos (by omega)]; first | done | rfl) | (rw [if_neg (by omega), if_neg (by omega), if_neg (by omega), if_neg (by omega), if_neg (by omega)]; first | done | rfl)
        · unfold fRDay
          first | (rw [if_pos (by omega)]; exact KR_refl _) | (rw [if_neg (by omega), if_pos (by omega)]; exact KR_refl _) | (rw [if_neg (by omega), if_neg (by omega), if_pos (by omega)]; exact KR_refl _) | (rw [if_neg (by omega), if_neg (by omega), if_neg (by omega)]; exact KR_refl _)
      · refine J_iload 27 dX9_day_25 rfl rfl ?_
        refine J_i2l 28 dX9_day_27 rfl ?_
        refine J_lconst (z := 0) 29 dX9_day_28 rfl rfl ?_
        refine J_ldc2 32 dX9_day_29 rfl cstX9_229 ?_
        refine J_callSi 35 dX9_day_32 rfl kX9_107 mX9_in (c_X9_in) (by first | decide | omega) rfl rfl (Nat.le_of_ble_eq_true rfl) (fun z13 s14 h12 => ?_)
        obtain ⟨rfl, rfl⟩ := h12
        refine J_bif_eq 66 38 dX9_day_35 rfl rfl (fun c15 => ?_) (fun c15 => ?_)
        · refine J_aload_n (i := 0) 67 dX9_day_66 rfl rfl rfl ?_
          refine J_bipush 69 dX9_day_67 rfl (by decide) ?_
          refine J_callVi 72 dX9_day_69 rfl kX9_150 mX9_refused rfl rfl rfl (c_X9_refused) (by first | decide | omega) rfl rfl (Nat.le_of_ble_eq_true rfl) (fun z17 s18 h16 => ?_)
          obtain ⟨rfl, rfl⟩ := h16
          refine J_iret dX9_day_72 rfl ?_
          refine ⟨?_, ?_⟩
          · unfold eRDay
            first | rfl | (rw [if_pos (by omega)]; first | done | rfl) | (rw [if_neg (by omega)]; first | done | rfl) | (rw [if_neg (by omega), if_pos (by omega)]; first | done | rfl) | (rw [if_neg (by omega), if_neg (by omega)]; first | done | rfl) | (rw [if_neg (by omega), if_neg (by omega), if_pos (by omega)]; first | done | rfl) | (rw [if_neg (by omega), if_neg (by omega), if_neg (by omega)]; first | done | rfl) | (rw [if_neg (by omega), if_neg (by omega), if_neg (by omega), if_pos (by omega)]; first | done | rfl) | (rw [if_neg (by omega), if_neg (by omega), if_neg (by omega), if_neg (by omega)]; first | done | rfl) | (rw [if_neg (by omega), if_neg (by omega), if_neg (by omega), if_neg (by omega), if_pos (by omega)]; first | done | rfl) | (rw [if_neg (by omega), if_neg (by omega), if_neg (by omega), if_neg (by omega), if_neg (by omega)]; first | done | rfl)
          · unfold fRDay
            first | (rw [if_pos (by omega)]; exact KR_refl _) | (rw [if_neg (by omega), if_pos (by omega)]; exact KR_refl _) | (rw [if_neg (by omega), if_neg (by omega), if_pos (by omega)]; exact KR_refl _) | (rw [if_neg (by omega), if_neg (by omega), if_neg (by omega)]; exact KR_refl _)
        · refine J_iload 40 dX9_day_38 rfl rfl ?_
          refine J_i2l 41 dX9_day_40 rfl ?_
          refine J_lconst (z := 0) 42 dX9_day_41 rfl rfl ?_
          refine J_ldc2 45 dX9_day_42 rfl cstX9_231 ?_
          refine J_callSi 48 dX9_day_45 rfl kX9_107 mX9_in (c_X9_in) (by first | decide | omega) rfl rfl (Nat.le_of_ble_eq_true rfl) (fun z20 s21 h19 => ?_)
          obtain ⟨rfl, rfl⟩ := h19
          refine J_bif_ne 73 51 dX9_day_48 rfl rfl (fun c22 => ?_) (fun c22 => ?_)
          · refine J_aload_n (i := 0) 74 dX9_day_73 rfl rfl rfl ?_
            refine J_getI (jz := 2) (lo := 0) (hi := 6) 77 dX9_day_74 rfl fX9_104 rfl rfl rfl rfl (fun b23 b24 => ?_)
            refine J_if_ne 87 80 dX9_day_77 rfl rfl (fun c25 => ?_) (fun c25 => ?_)
            · refine J_aload_n (i := 0) 88 dX9_day_87 rfl rfl rfl ?_
              refine J_iload_n (i := 1) 89 dX9_day_88 rfl rfl rfl ?_
              refine J_iload_n (i := 2) 90 dX9_day_89 rfl rfl rfl ?_
              refine J_iload_n (i := 3) 91 dX9_day_90 rfl rfl rfl ?_
              refine J_ldc2 94 dX9_day_91 rfl cstX9_153 ?_
              refine J_iload 96 dX9_day_94 rfl rfl ?_
              refine J_i2l 97 dX9_day_96 rfl ?_
              refine J_lmul 98 dX9_day_97 rfl ?_
              refine J_callVi 101 dX9_day_98 rfl kX9_155 mX9_cellsBarred rfl rfl rfl (c_X9_cellsBarred (by omega) (by omega) (by omega) (by omega)) (by first | decide | omega) rfl rfl (Nat.le_of_ble_eq_true rfl) (fun z27 s28 h26 => ?_)
              obtain ⟨rfl, rfl⟩ := h26
              refine J.st (if_neg hz) ?_
              refine J.top (if_neg hz) ?_
              refine J_istore 103 dX9_day_101 rfl (by decide) ?_
              refine J_iload 105 dX9_day_103 rfl rfl ?_
              refine J_if_ge 111 108 dX9_day_105 rfl rfl (fun c29 => ?_) (fun c29 => ?_)
              · exfalso; omega
              · refine J_iload 110 dX9_day_108 rfl rfl ?_
                refine J_iret dX9_day_110 rfl ?_
                refine ⟨?_, ?_⟩
                · unfold eRDay
                  first | rfl | (rw [if_pos (by omega)]; first | done | rfl) | (rw [if_neg (by omega)]; first | done | rfl) | (rw [if_neg (by omega), if_pos (by omega)]; first | done | rfl) | (rw [if_neg (by omega), if_neg (by omega)]; first | done | rfl) | (rw [if_neg (by omega), if_neg (by omega), if_pos (by omega)]; first | done | rfl) | (rw [if_neg (by omega), if_neg (by omega), if_neg (by omega)]; first | done | rfl) | (rw [if_neg (by omega), if_neg (by omega), if_neg (by omega), if_pos (by omega)]; first | done | rfl) | (rw [if_neg (by omega), if_neg (by omega), if_neg (by omega), if_neg (by omega)]; first | done | rfl) | (rw [if_neg (by omega), if_neg (by omega), if_neg (by omega), if_neg (by omega), if_pos (by omega)]; first | done | rfl) | (rw [if_neg (by omega), if_neg (by omega), if_neg (by omega), if_neg (by omega), if_neg (by omega)]; first | done | rfl)
                · unfold fRDay
                  first | (rw [if_pos (by omega)]; exact KR_refl _) | (rw [if_neg (by omega), if_pos (by omega)]; exact KR_refl _) | (rw [if_neg (by omega), if_neg (by omega), if_pos (by omega)]; exact KR_refl _) | (rw [if_neg (by omega), if_neg (by omega), if_neg (by omega)]; exact KR_refl _)
            · refine J_aload_n (i := 0) 81 dX9_day_80 rfl rfl rfl ?_
              refine J_bipush 83 dX9_day_81 rfl (by decide) ?_
              refine J_callVi 86 dX9_day_83 rfl kX9_150 mX9_refused rfl rfl rfl (c_X9_refused) (by first | decide | omega) rfl rfl (Nat.le_of_ble_eq_true rfl) (fun z31 s32 h30 => ?_)
              obtain ⟨rfl, rfl⟩ := h30
              refine J_iret dX9_day_86 rfl ?_
              refine ⟨?_, ?_⟩
              · unfold eRDay
                first | rfl | (rw [if_pos (by omega)]; first | done | rfl) | (rw [if_neg (by omega)]; first | done | rfl) | (rw [if_neg (by omega), if_pos (by omega)]; first | done | rfl) | (rw [if_neg (by omega), if_neg (by omega)]; first | done | rfl) | (rw [if_neg (by omega), if_neg (by omega), if_pos (by omega)]; first | done | rfl) | (rw [if_neg (by omega), if_neg (by omega), if_neg (by omega)]; first | done | rfl) | (rw [if_neg (by omega), if_neg (by omega), if_neg (by omega), if_pos (by omega)]; first | done | rfl) | (rw [if_neg (by omega), if_neg (by omega), if_neg (by omega), if_neg (by omega)]; first | done | rfl) | (rw [if_neg (by omega), if_neg (by omega), if_neg (by omega), if_neg (by omega), if_pos (by omega)]; first | done | rfl) | (rw [if_neg (by omega), if_neg (by omega), if_neg (by omega), if_neg (by omega), if_neg (by omega)]; first | done | rfl)
              · unfold fRDay
                first | (rw [if_pos (by omega)]; exact KR_refl _) | (rw [if_neg (by omega), if_pos (by omega)]; exact KR_refl _) | (rw [if_neg (by omega), if_neg (by omega), if_pos (by omega)]; exact KR_refl _) | (rw [if_neg (by omega), if_neg (by omega), if_neg (by omega)]; exact KR_refl _)
          · refine J_iload 53 dX9_day_51 rfl rfl ?_
            refine J_i2l 54 dX9_day_53 rfl ?_
            refine J_ldc2 57 dX9_day_54 rfl cstX9_233 ?_
            refine J_ldc2 60 dX9_day_57 rfl cstX9_235 ?_
            refine J_callSi 63 dX9_day_60 rfl kX9_107 mX9_in (c_X9_in) (by first | decide | omega) rfl rfl (Nat.le_of_ble_eq_true rfl) (fun z34 s35 h33 => ?_)
            obtain ⟨rfl, rfl⟩ := h33
            refine J_bif_ne 73 66 dX9_day_63 rfl rfl (fun c36 => ?_) (fun c36 => ?_)
            · refine J_aload_n (i := 0) 74 dX9_day_73 rfl rfl rfl ?_
              refine J_getI (jz := 2) (lo := 0) (hi := 6) 77 dX9_day_74 rfl fX9_104 rfl rfl rfl rfl (fun b37 b38 => ?_)
              refine J_if_ne 87 80 dX9_day_77 rfl rfl (fun c39 => ?_) (fun c39 => ?_)
              · refine J_aload_n (i := 0) 88 dX9_day_87 rfl rfl rfl ?_
                refine J_iload_n (i := 1) 89 dX9_day_88 rfl rfl rfl ?_
                refine J_iload_n (i := 2) 90 dX9_day_89 rfl rfl rfl ?_
                refine J_iload_n (i := 3) 91 dX9_day_90 rfl rfl rfl ?_
                refine J_ldc2 94 dX9_day_91 rfl cstX9_153 ?_
                refine J_iload 96 dX9_day_94 rfl rfl ?_
                refine J_i2l 97 dX9_day_96 rfl ?_
                refine J_lmul 98 dX9_day_97 rfl ?_
                refine J_callVi 101 dX9_day_98 rfl kX9_155 mX9_cellsBarred rfl rfl rfl (c_X9_cellsBarred (by omega) (by omega) (by omega) (by omega)) (by first | decide | omega) rfl rfl (Nat.le_of_ble_eq_true rfl) (fun z41 s42 h40 => ?_)
                obtain ⟨rfl, rfl⟩ := h40
                refine J.st (if_neg hz) ?_
                refine J.top (if_neg hz) ?_
                refine J_istore 103 dX9_day_101 rfl (by decide) ?_
                refine J_iload 105 dX9_day_103 rfl rfl ?_
                refine J_if_ge 111 108 dX9_day_105 rfl rfl (fun c43 => ?_) (fun c43 => ?_)
                · exfalso; omega
                · refine J_iload 110 dX9_day_108 rfl rfl ?_
                  refine J_iret dX9_day_110 rfl ?_
                  refine ⟨?_, ?_⟩
                  · unfold eRDay
                    first | rfl | (rw [if_pos (by omega)]; first | done | rfl) | (rw [if_neg (by omega)]; first | done | rfl) | (rw [if_neg (by omega), if_pos (by omega)]; first | done | rfl) | (rw [if_neg (by omega), if_neg (by omega)]; first | done | rfl) | (rw [if_neg (by omega), if_neg (by omega), if_pos (by omega)]; first | done | rfl) | (rw [if_neg (by omega), if_neg (by omega), if_neg (by omega)]; first | done | rfl) | (rw [if_neg (by omega), if_neg (by omega), if_neg (by omega), if_pos (by omega)]; first | done | rfl) | (rw [if_neg (by omega), if_neg (by omega), if_neg (by omega), if_neg (by omega)]; first | done | rfl) | (rw [if_neg (by omega), if_neg (by omega), if_neg (by omega), if_neg (by omega), if_pos (by omega)]; first | done | rfl) | (rw [if_neg (by omega), if_neg (by omega), if_neg (by omega), if_neg (by omega), if_neg (by omega)]; first | done | rfl)
                  · unfold fRDay
                    first | (rw [if_pos (by omega)]; exact KR_refl _) | (rw [if_neg (by omega), if_pos (by omega)]; exact KR_refl _) | (rw [if_neg (by omega), if_neg (by omega), if_pos (by omega)]; exact KR_refl _) | (rw [if_neg (by omega), if_neg (by omega), if_neg (by omega)]; exact KR_refl _)
              · refine J_aload_n (i := 0) 81 dX9_day_80 rfl rfl rfl ?_
                refine J_bipush 83 dX9_day_81 rfl (by decide) ?_
                refine J_callVi 86 dX9_day_83 rfl kX9_150 mX9_refused rfl rfl rfl (c_X9_refused) (by first | decide | omega) rfl rfl (Nat.le_of_ble_eq_true rfl) (fun z45 s46 h44 => ?_)
                obtain ⟨rfl, rfl⟩ := h44
                refine J_iret dX9_day_86 rfl ?_
                refine ⟨?_, ?_⟩
                · unfold eRDay
                  first | rfl | (rw [if_pos (by omega)]; first | done | rfl) | (rw [if_neg (by omega)]; first | done | rfl) | (rw [if_neg (by omega), if_pos (by omega)]; first | done | rfl) | (rw [if_neg (by omega), if_neg (by omega)]; first | done | rfl) | (rw [if_neg (by omega), if_neg (by omega), if_pos (by omega)]; first | done | rfl) | (rw [if_neg (by omega), if_neg (by omega), if_neg (by omega)]; first | done | rfl) | (rw [if_neg (by omega), if_neg (by omega), if_neg (by omega), if_pos (by omega)]; first | done | rfl) | (rw [if_neg (by omega), if_neg (by omega), if_neg (by omega), if_neg (by omega)]; first | done | rfl) | (rw [if_neg (by omega), if_neg (by omega), if_neg (by omega), if_neg (by omega), if_pos (by omega)]; first | done | rfl) | (rw [if_neg (by omega), if_neg (by omega), if_neg (by omega), if_neg (by omega), if_neg (by omega)]; first | done | rfl)
                · unfold fRDay
                  first | (rw [if_pos (by omega)]; exact KR_refl _) | (rw [if_neg (by omega), if_pos (by omega)]; exact KR_refl _) | (rw [if_neg (by omega), if_neg (by omega), if_pos (by omega)]; exact KR_refl _) | (rw [if_neg (by omega), if_neg (by omega), if_neg (by omega)]; exact KR_refl _)
            · refine J_aload_n (i := 0) 67 dX9_day_66 rfl rfl rfl ?_
              refine J_bipush 69 dX9_day_67 rfl (by decide) ?_
              refine J_callVi 72 dX9_day_69 rfl kX9_150 mX9_refused rfl rfl rfl (c_X9_refused) (by first | decide | omega) rfl rfl (Nat.le_of_ble_eq_true rfl) (fun z48 s49 h47 => ?_)
              obtain ⟨rfl, rfl⟩ := h47
              refine J_iret dX9_day_72 rfl ?_
              refine ⟨?_, ?_⟩
              · unfold eRDay
                first | rfl | (rw [if_pos (by omega)]; first | done | rfl) | (rw [if_neg (by omega)]; first | done | rfl) | (rw [if_neg (by omega), if_pos (by omega)]; first | done | rfl) | (rw [if_neg (by omega), if_neg (by omega)]; first | done | rfl) | (rw [if_neg (by omega), if_neg (by omega), if_pos (by omega)]; first | done | rfl) | (rw [if_neg (by omega), if_neg (by omega), if_neg (by omega)]; first | done | rfl) | (rw [if_neg (by omega), if_neg (by omega), if_neg (by omega), if_pos (by omega)]; first | done | rfl) | (rw [if_neg (by omega), if_neg (by omega), if_neg (by omega), if_neg (by omega)]; first | done | rfl) | (rw [if_neg (by omega), if_neg (by omega), if_neg (by omega), if_neg (by omega), if_pos (by omega)]; first | done | rfl) | (rw [if_neg (by omega), if_neg (by omega), if_neg (by omega), if_neg (by omega), if_neg (by omega)]; first | done | rfl)
              · unfold fRDay
                first | (rw [if_pos (by omega)]; exact KR_refl _) | (rw [if_neg (by omega), if_pos (by omega)]; exact KR_refl _) | (rw [if_neg (by omega), if_neg (by omega), if_pos (by omega)]; exact KR_refl _) | (rw [if_neg (by omega), if_neg (by omega), if_neg (by omega)]; exact KR_refl _)
    · refine J_aload_n (i := 0) 8 dX9_day_7 rfl rfl rfl ?_
      refine J_iconst 9 dX9_day_8 rfl ?_
      refine J_callVi 12 dX9_day_9 rfl kX9_150 mX9_refused rfl rfl rfl (c_X9_refused) (by first | decide | omega) rfl rfl (Nat.le_of_ble_eq_true rfl) (fun z51 s52 h50 => ?_)
      obtain ⟨rfl, rfl⟩ := h50
      refine J_iret dX9_day_12 rfl ?_
      refine ⟨?_, ?_⟩
      · unfold eRDay
        first | rfl | (rw [if_pos (by omega)]; first | done | rfl) | (rw [if_neg (by omega)]; first | done | rfl) | (rw [if_neg (by omega), if_pos (by omega)]; first | done | rfl) | (rw [if_neg (by omega), if_neg (by omega)]; first | done | rfl) | (rw [if_neg (by omega), if_neg (by omega), if_pos (by omega)]; first | done | rfl) | (rw [if_neg (by omega), if_neg (by omega), if_neg (by omega)]; first | done | rfl) | (rw [if_neg (by omega), if_neg (by omega), if_neg (by omega), if_pos (by omega)]; first | done | rfl) | (rw [if_neg (by omega), if_neg (by omega), if_neg (by omega), if_neg (by omega)]; first | done | rfl) | (rw [if_neg (by omega), if_neg (by omega), if_neg (by omega), if_neg (by omega), if_pos (by omega)]; first | done | rfl) | (rw [if_neg (by omega), if_neg (by omega), if_neg (by omega), if_neg (by omega), if_neg (by omega)]; first | done | rfl)
      · unfold fRDay
        first | (rw [if_pos (by omega)]; exact KR_refl _) | (rw [if_neg (by omega), if_pos (by omega)]; exact KR_refl _) | (rw [if_neg (by omega), if_neg (by omega), if_pos (by omega)]; exact KR_refl _) | (rw [if_neg (by omega), if_neg (by omega), if_neg (by omega)]; exact KR_refl _)
end

