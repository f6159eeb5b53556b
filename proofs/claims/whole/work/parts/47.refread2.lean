/-! ===== the reference reads gates, comers, a winter ===== -/
theorem cdM_in {f : Int → Int} {a : Int} {p N : Nat} (h : p < N) : cdM f a N p = f (a + p) := by unfold cdM; rw [if_pos (by omega)]
theorem cdM_out {f : Int → Int} {a : Int} {p N : Nat} (h : ¬ p < N) : cdM f a N p = -9 := by unfold cdM; rw [if_neg (by omega)]
theorem cdM_lt {f : Int → Int} {a : Int} {p N : Nat} (h : ¬ cdM f a N p = -9) : p < N := by
  by_cases e : p < N
  · exact e
  · exact absurd (cdM_out e) h
section
variable {f : Int → Int} {v0 V : jS} {p N : Nat} {a s : Int}
theorem gate_err (hE : pE f a v0 p = (-1, s, V)) (hp : p ≤ N) (hs : (s = 1 ∧ V 0 0 = 0) ∨ (s = 3 ∧ 1 ≤ V 0 0 ∧ cdM f a N p = 44)) (hx : V 0 0 = 3 ∨ ¬ cdM f a N p = 44) : readR f a v0 N = p := by
  refine rd_stop hE hp (by omega) (fun hpN => ?_)
  rw [cdM_in hpN] at hs hx
  unfold pS
  rcases hs with ⟨h1, h2⟩ | ⟨h1, h2, h3⟩
  · rw [if_neg (by omega), if_pos h1]
    show (if f (a + p) = 44 then (2 : Int) else -1) = -1
    rw [if_neg (by omega)]
  · rw [if_neg (by omega), if_neg (by omega), if_neg (by omega), if_pos h1]
    show (if f (a + p) = 44 ∧ V 0 0 < 3 then (2 : Int) else if f (a + p) = 59 then 4 else -1) = -1
    rw [if_neg (by omega), if_neg (by omega)]
theorem gate_ok (hE : pE f a v0 p = (-1, s, V)) (hs : (s = 1 ∧ V 0 0 = 0) ∨ (s = 3 ∧ 1 ≤ V 0 0 ∧ cdM f a N p = 44)) (hg : V 0 0 < 3) (hx : cdM f a N p = 44) : p < N ∧ pE f a v0 (p + 1) = (-1, 2, V) := by
  have hpN : p < N := cdM_lt (f := f) (a := a) (by omega)
  refine ⟨hpN, pE_step hE ?_ (by omega)⟩
  rw [cdM_in hpN] at hs hx
  unfold pS
  rcases hs with ⟨h1, h2⟩ | ⟨h1, h2, h3⟩
  · rw [if_neg (by omega), if_pos h1, if_pos hx]
  · rw [if_neg (by omega), if_neg (by omega), if_neg (by omega), if_pos h1, if_pos ⟨hx, hg⟩]
theorem com_err (hE : pE f a v0 p = (-1, s, V)) (hp : p ≤ N) (hs : (s = 3 ∧ V 0 1 = 0 ∧ ¬ cdM f a N p = 44) ∨ (s = 9 ∧ 1 ≤ V 0 1 ∧ p < N)) (hx : V 0 1 = 6 ∨ ¬ cdM f a N p = 59) : readR f a v0 N = p := by
  rcases hs with ⟨h1, h2, h3⟩ | ⟨h1, h2, h3⟩
  · refine rd_stop hE hp (by omega) (fun hpN => ?_)
    rw [cdM_in hpN] at h3 hx
    unfold pS
    rw [if_neg (by omega), if_neg (by omega), if_neg (by omega), if_pos h1]
    show (if f (a + p) = 44 ∧ V 0 0 < 3 then (2 : Int) else if f (a + p) = 59 then 4 else -1) = -1
    rw [if_neg (by omega), if_neg (by omega)]
  · refine rd_err hE ?_ h3
    rw [cdM_in h3] at hx
    unfold pS
    rw [if_neg (by omega), if_neg (by omega), if_neg (by omega), if_neg (by omega), if_pos h1]
    show (if f (a + p) = 59 ∧ V 0 1 < 6 then (4 : Int) else -1) = -1
    rw [if_neg (by omega)]
theorem com_ok (hE : pE f a v0 p = (-1, s, V)) (hs : (s = 3 ∧ V 0 1 = 0 ∧ ¬ cdM f a N p = 44) ∨ (s = 9 ∧ 1 ≤ V 0 1 ∧ p < N)) (hg : V 0 1 < 6) (hx : cdM f a N p = 59) : p < N ∧ pE f a v0 (p + 1) = (-1, 4, V) := by
  have hpN : p < N := cdM_lt (f := f) (a := a) (by omega)
  refine ⟨hpN, pE_step hE ?_ (by omega)⟩
  rw [cdM_in hpN] at hs hx
  unfold pS
  rcases hs with ⟨h1, h2⟩ | ⟨h1, h2, h3⟩
  · rw [if_neg (by omega), if_neg (by omega), if_neg (by omega), if_pos h1, if_neg (by omega), if_pos hx]
  · rw [if_neg (by omega), if_neg (by omega), if_neg (by omega), if_neg (by omega), if_pos h1, if_pos ⟨hx, hg⟩]
theorem kind_err (hE : pE f a v0 p = (-1, 4, V)) (hp : p ≤ N) (hx : ¬ cdM f a N p = 112 ∧ ¬ cdM f a N p = 99 ∧ ¬ cdM f a N p = 103) : readR f a v0 N = p := by
  refine rd_stop hE hp (by omega) (fun hpN => ?_)
  rw [cdM_in hpN] at hx
  unfold pS comS kndM
  rw [if_neg (by omega), if_neg (by omega), if_neg (by omega), if_neg (by omega), if_neg (by omega), if_pos rfl, if_neg hx.1, if_neg hx.2.1, if_neg hx.2.2, if_pos (Or.inl (by omega))]
theorem kind_ok {k : Int} (hE : pE f a v0 p = (-1, 4, V)) (hg : V 0 1 < 6) (hx : (cdM f a N p = 112 ∧ k = 0) ∨ (cdM f a N p = 99 ∧ k = 1) ∨ (cdM f a N p = 103 ∧ k = 2)) : p < N ∧ pE f a v0 (p + 1) = (-1, 5, jup V 2 (V 0 1) k) := by
  have hpN : p < N := cdM_lt (f := f) (a := a) (by omega)
  refine ⟨hpN, pE_step hE ?_ (by omega)⟩
  rw [cdM_in hpN] at hx
  have hk : kndM (f (a + p)) = k := by
    unfold kndM
    rcases hx with ⟨h1, h2⟩ | ⟨h1, h2⟩ | ⟨h1, h2⟩
    · rw [if_pos h1, h2]
    · rw [if_neg (by omega), if_pos h1, h2]
    · rw [if_neg (by omega), if_neg (by omega), if_pos h1, h2]
  unfold pS comS
  rw [if_neg (by omega), if_neg (by omega), if_neg (by omega), if_neg (by omega), if_neg (by omega), if_pos rfl, hk, if_neg (by omega), if_neg (by omega)]
  rfl
end
def rgQ (τ : jS) (f : Int → Int) (a : Int) (v0 : jS) (N p : Nat) (z : Int) (σ' : jS) : Prop := RF τ σ' ∧ ((z = 1 ∧ p + 2 ≤ N ∧ σ' 36 12 = p + 2 ∧ ∃ V' : jS, pE f a v0 (p + 2) = (-1, 3, V') ∧ rvp V' σ' 2 ∧ V' 0 1 = 0 ∧ 1 ≤ V' 0 0) ∨ (z = 0 ∧ readR f a v0 N = σ' 36 12))
def rcQ (τ : jS) (f : Int → Int) (a : Int) (v0 : jS) (N p : Nat) (z : Int) (σ' : jS) : Prop := RF τ σ' ∧ ((z = 1 ∧ p + 6 ≤ N ∧ σ' 36 12 = p + 6 ∧ ∃ V' : jS, pE f a v0 (p + 6) = (-1, 9, V') ∧ rvp V' σ' 2 ∧ 1 ≤ V' 0 1 ∧ 1 ≤ V' 0 0) ∨ (z = 0 ∧ readR f a v0 N = σ' 36 12))
section
variable {P : jP} {w o : Nat} {a b c d g x y z n s i j k l m r : Int} {σ τ τ0 v v0 V : jS} {f : Int → Int} {p N : Nat}
set_option maxHeartbeats 4000000 in
theorem c_X9_readsGate (ha : 0 ≤ a ∧ a + N ≤ 240) (hN : N ≤ 60) (e63 : τ 63 = f) (e12 : τ 36 12 = p) (hp : p ≤ N) (hE : pE f a v0 p = (-1, s, V)) (hv : rvp V τ 2) (h1 : V 0 1 = 0) (hs : (s = 1 ∧ V 0 0 = 0) ∨ (s = 3 ∧ 1 ≤ V 0 0 ∧ cdM f a N p = 44)) : Ct P 3 yX9_readsGate cX9_readsGate 4 (some .boolean) [vr P 36, vi a, vi (N : Int)] τ (qi (rgQ τ f a v0 N p)) := by
  refine Ct.bd (fun hB => ?_)
  have eg := hv.1
  have hg3 : 0 ≤ τ 36 13 ∧ τ 36 13 ≤ 3 := hB 36 13
  have hcb := cdM_b (f := τ 63) (fun j => hB 63 j) a N (τ 36 12)
  rw [e63, e12] at hcb
  refine Ct.of _ rfl rfl rfl (Nat.le_of_ble_eq_true rfl) (fun hB => ?_)
  refine J_aload_n (i := 0) 1 dX9_readsGate_0 rfl rfl rfl ?_
  refine J_getI (jz := 13) (lo := 0) (hi := 3) 4 dX9_readsGate_1 rfl fX9_121 rfl rfl rfl rfl (fun b1 b2 => ?_)
  refine J_iconst 5 dX9_readsGate_4 rfl ?_
  refine J_icmp_eq 19 8 dX9_readsGate_5 rfl rfl (fun c3 => ?_) (fun c3 => ?_)
  · refine J_iconst 20 dX9_readsGate_19 rfl ?_
    refine J_zret dX9_readsGate_20 rfl ?_
    exact ⟨RF_refl _, Or.inr ⟨rfl, by rw [e12]; exact gate_err hE hp hs (by omega)⟩⟩
  · refine J_aload_n (i := 0) 9 dX9_readsGate_8 rfl rfl rfl ?_
    refine J_iload_n (i := 1) 10 dX9_readsGate_9 rfl rfl rfl ?_
    refine J_iload_n (i := 2) 11 dX9_readsGate_10 rfl rfl rfl ?_
    refine J_callVi 14 dX9_readsGate_11 rfl kX9_117 mX9_codeAt rfl rfl rfl (c_X9_codeAt ha (by omega)) (by first | decide | omega) rfl rfl (Nat.le_of_ble_eq_true rfl) (fun z5 s6 h4 => ?_)
    obtain ⟨hz, rfl⟩ := h4
    rw [e63, e12] at hz
    subst hz
    refine J_bipush 16 dX9_readsGate_14 rfl (by decide) ?_
    refine J_icmp_eq 21 19 dX9_readsGate_16 rfl rfl (fun c7 => ?_) (fun c7 => ?_)
    · have hok := gate_ok (N := N) hE hs (by omega) (by omega)
      refine J_aload_n (i := 0) 22 dX9_readsGate_21 rfl rfl rfl ?_
      refine J_dup 23 dX9_readsGate_22 rfl rfl ?_
      refine J_getI (jz := 12) (lo := 0) (hi := 60) 26 dX9_readsGate_23 rfl fX9_114 rfl rfl rfl rfl (fun b8 b9 => ?_)
      refine J_iconst 27 dX9_readsGate_26 rfl ?_
      refine J_iadd 28 dX9_readsGate_27 rfl ?_
      refine J_putI (jz := 12) (lo := 0) (hi := 60) 31 dX9_readsGate_28 rfl gX9_114 rfl rfl rfl rfl ?_
      refine J_aload_n (i := 0) 32 dX9_readsGate_31 rfl rfl rfl ?_
      refine J_iload_n (i := 1) 33 dX9_readsGate_32 rfl rfl rfl ?_
      refine J_iload_n (i := 2) 34 dX9_readsGate_33 rfl rfl rfl ?_
      refine J_bipush 36 dX9_readsGate_34 rfl (by decide) ?_
      refine J_callVi 39 dX9_readsGate_36 rfl kX9_124 mX9_figure rfl rfl rfl (c_X9_figure ha (by omega) (by omega)) (by first | decide | omega) rfl rfl (Nat.le_of_ble_eq_true rfl) (fun z11 s12 h10 => ?_)
      have hq := fig_q (s := 2) (p := p + 1) (by omega) hok.2 (by omega) (by omega) (by omega) (by rw [if_neg (by omega)]) (by omega) ((jup_ne (by omega)).trans e63) (by rw [jup_at, e12]; rfl) h10
      have hRF := RF_trans (RF_up (σ := τ) (K := 36) (J := 12) (z := τ 36 12 + 1) (by omega)) (RF_12 hq.1 hq.2.1)
      have hv2 := rvp_12 (rvp_12 hv (fun q h => jup_ne (z := τ 36 12 + 1) (j := 12) h) (fun j h => jup_ne2 h)) hq.1 hq.2.1
      have eg2 := hv2.1
      refine J_istore_n (i := 3) 40 dX9_readsGate_39 rfl rfl (by decide) ?_
      refine J_iload_n (i := 3) 41 dX9_readsGate_40 rfl rfl rfl ?_
      refine J_if_ge 46 44 dX9_readsGate_41 rfl rfl (fun c13 => ?_) (fun c13 => ?_)
      · refine J_aload_n (i := 0) 47 dX9_readsGate_46 rfl rfl rfl ?_
        refine J_getR 50 dX9_readsGate_47 rfl fX9_31 rfl rfl ?_
        refine J_aload_n (i := 0) 51 dX9_readsGate_50 rfl rfl rfl ?_
        refine J_getI (jz := 13) (lo := 0) (hi := 3) 54 dX9_readsGate_51 rfl fX9_121 rfl rfl rfl rfl (fun b14 b15 => ?_)
        try simp +decide only [jup, ↓reduceIte] at b14 b15 ⊢
        refine J_iload_n (i := 3) 55 dX9_readsGate_54 rfl rfl rfl ?_
        refine J_iast (N := 3) (lo := 0) (hi := 9) 56 dX9_readsGate_55 rfl rfl rfl rfl ?_
        refine J_aload_n (i := 0) 57 dX9_readsGate_56 rfl rfl rfl ?_
        refine J_dup 58 dX9_readsGate_57 rfl rfl ?_
        refine J_getI (jz := 13) (lo := 0) (hi := 3) 61 dX9_readsGate_58 rfl fX9_121 rfl rfl rfl rfl (fun b16 b17 => ?_)
        try simp +decide only [jup, ↓reduceIte] at b16 b17 ⊢
        refine J_iconst 62 dX9_readsGate_61 rfl ?_
        refine J_iadd 63 dX9_readsGate_62 rfl ?_
        refine J_putI (jz := 13) (lo := 0) (hi := 3) 66 dX9_readsGate_63 rfl gX9_121 rfl rfl rfl rfl ?_
        refine J_iconst 67 dX9_readsGate_66 rfl ?_
        refine J_zret dX9_readsGate_67 rfl ?_
        refine ⟨RF_trans hRF (RF_trans (RF_up (by omega)) (RF_up (by omega))), Or.inl ⟨rfl, ?_⟩⟩
        rcases hq.2.2 with h | h
        · rw [← eg2]
          exact ⟨by omega, h.2.2.2.1, _, h.2.2.2.2, rvp_gate hv2 h1, h1, by show 1 ≤ V 0 0 + 1; omega⟩
        · exfalso; omega
      · refine J_iconst 45 dX9_readsGate_44 rfl ?_
        refine J_zret dX9_readsGate_45 rfl ?_
        refine ⟨hRF, Or.inr ⟨rfl, ?_⟩⟩
        rcases hq.2.2 with h | h
        · exfalso; omega
        · rw [h.2.1]; exact h.2.2
    · refine J_iconst 20 dX9_readsGate_19 rfl ?_
      refine J_zret dX9_readsGate_20 rfl ?_
      exact ⟨RF_refl _, Or.inr ⟨rfl, by rw [e12]; exact gate_err hE hp hs (by omega)⟩⟩
set_option maxHeartbeats 4000000 in
theorem l_X9_comB4 {cd : Int} (hRF : RF τ0 τ) (hr : readR f a v0 N = τ 36 12) (hc : 0 ≤ c ∧ c < 6) (e14 : τ 36 14 = c) : J P 3 (RX9, cX9_readsComer, 5, some .boolean) 211 [some (vr P 36), some (vi a), some (vi (N : Int)), some (vi cd), some (vi c)] [vi (-9), vi c, vr P 49] τ (qi (rcQ τ0 f a v0 N p)) := by
  refine J_iast (N := 6) (lo := (-9)) (hi := 9) 212 dX9_readsComer_211 rfl rfl rfl rfl ?_
  refine J_aload_n (i := 0) 213 dX9_readsComer_212 rfl rfl rfl ?_
  refine J_dup 214 dX9_readsComer_213 rfl rfl ?_
  refine J_getI (jz := 14) (lo := 0) (hi := 6) 217 dX9_readsComer_214 rfl fX9_128 rfl rfl rfl rfl (fun b1 b2 => ?_)
  try simp +decide only [jup, ↓reduceIte] at b1 b2 ⊢
  refine J_iconst 218 dX9_readsComer_217 rfl ?_
  refine J_iadd 219 dX9_readsComer_218 rfl ?_
  refine J_putI (jz := 14) (lo := 0) (hi := 6) 222 dX9_readsComer_219 rfl gX9_128 rfl rfl rfl rfl ?_
  refine J_aload_n (i := 0) 223 dX9_readsComer_222 rfl rfl rfl ?_
  refine J_getR 226 dX9_readsComer_223 rfl fX9_46 rfl rfl ?_
  refine J_iload 228 dX9_readsComer_226 rfl rfl ?_
  refine J_iald (N := 6) (lo := (-9)) (hi := 9) 229 dX9_readsComer_228 rfl rfl rfl rfl (fun b3 b4 => ?_)
  try simp +decide only [jup, ↓reduceIte] at b3 b4 ⊢
  refine J_if_lt 236 232 dX9_readsComer_229 rfl rfl (fun c5 => ?_) (fun c5 => ?_)
  · refine J_iconst 237 dX9_readsComer_236 rfl ?_
    refine J_zret dX9_readsComer_237 rfl ?_
    exact ⟨RF_trans hRF (RF_trans (RF_up (by omega)) (RF_up (by omega))), Or.inr ⟨rfl, hr⟩⟩
  · exfalso; omega
set_option maxHeartbeats 4000000 in
theorem l_X9_comB3 {cd : Int} (hRF : RF τ0 τ) (hr : readR f a v0 N = τ 36 12) (hc : 0 ≤ c ∧ c < 6) (e14 : τ 36 14 = c) : J P 3 (RX9, cX9_readsComer, 5, some .boolean) 181 [some (vr P 36), some (vi a), some (vi (N : Int)), some (vi cd), some (vi c)] [vi (-9), vi c, vr P 48] τ (qi (rcQ τ0 f a v0 N p)) := by
  refine J_iast (N := 6) (lo := (-9)) (hi := 2) 182 dX9_readsComer_181 rfl rfl rfl rfl ?_
  refine J_aload_n (i := 0) 183 dX9_readsComer_182 rfl rfl rfl ?_
  refine J_getR 186 dX9_readsComer_183 rfl fX9_46 rfl rfl ?_
  refine J_iload 188 dX9_readsComer_186 rfl rfl ?_
  refine J_aload_n (i := 0) 189 dX9_readsComer_188 rfl rfl rfl ?_
  refine J_getR 192 dX9_readsComer_189 rfl fX9_43 rfl rfl ?_
  refine J_iload 194 dX9_readsComer_192 rfl rfl ?_
  refine J_iald (N := 6) (lo := (-9)) (hi := 2) 195 dX9_readsComer_194 rfl rfl rfl rfl (fun b1 b2 => ?_)
  try simp +decide only [jup, ↓reduceIte] at b1 b2 ⊢
  refine J_if_ge 203 198 dX9_readsComer_195 rfl rfl (fun c3 => ?_) (fun c3 => ?_)
  · exfalso; omega
  · refine J_bipush 200 dX9_readsComer_198 rfl (by decide) ?_
    refine J_goto 211 dX9_readsComer_200 rfl ?_
    exact l_X9_comB4 (RF_trans hRF (RF_up (by omega))) hr hc e14
set_option maxHeartbeats 4000000 in
theorem l_X9_comB2 {cd : Int} (hRF : RF τ0 τ) (hr : readR f a v0 N = τ 36 12) (hc : 0 ≤ c ∧ c < 6) (e14 : τ 36 14 = c) : J P 3 (RX9, cX9_readsComer, 5, some .boolean) 147 [some (vr P 36), some (vi a), some (vi (N : Int)), some (vi cd), some (vi c)] [vi (-9), vi c, vr P 47] τ (qi (rcQ τ0 f a v0 N p)) := by
  refine J_iast (N := 6) (lo := (-9)) (hi := 9) 148 dX9_readsComer_147 rfl rfl rfl rfl ?_
  refine J_aload_n (i := 0) 149 dX9_readsComer_148 rfl rfl rfl ?_
  refine J_getR 152 dX9_readsComer_149 rfl fX9_43 rfl rfl ?_
  refine J_iload 154 dX9_readsComer_152 rfl rfl ?_
  refine J_aload_n (i := 0) 155 dX9_readsComer_154 rfl rfl rfl ?_
  refine J_getR 158 dX9_readsComer_155 rfl fX9_40 rfl rfl ?_
  refine J_iload 160 dX9_readsComer_158 rfl rfl ?_
  refine J_iald (N := 6) (lo := (-9)) (hi := 9) 161 dX9_readsComer_160 rfl rfl rfl rfl (fun b1 b2 => ?_)
  try simp +decide only [jup, ↓reduceIte] at b1 b2 ⊢
  refine J_if_ge 169 164 dX9_readsComer_161 rfl rfl (fun c3 => ?_) (fun c3 => ?_)
  · exfalso; omega
  · refine J_bipush 166 dX9_readsComer_164 rfl (by decide) ?_
    refine J_goto 181 dX9_readsComer_166 rfl ?_
    exact l_X9_comB3 (RF_trans hRF (RF_up (by omega))) hr hc e14
set_option maxHeartbeats 4000000 in
theorem l_X9_comB1 {cd : Int} (hRF : RF τ0 τ) (hr : readR f a v0 N = τ 36 12) (hc : 0 ≤ c ∧ c < 6) (e14 : τ 36 14 = c) : J P 3 (RX9, cX9_readsComer, 5, some .boolean) 117 [some (vr P 36), some (vi a), some (vi (N : Int)), some (vi cd), some (vi c)] [vi (-9), vi c, vr P 46] τ (qi (rcQ τ0 f a v0 N p)) := by
  refine J_iast (N := 6) (lo := (-9)) (hi := 9) 118 dX9_readsComer_117 rfl rfl rfl rfl ?_
  refine J_aload_n (i := 0) 119 dX9_readsComer_118 rfl rfl rfl ?_
  refine J_getR 122 dX9_readsComer_119 rfl fX9_40 rfl rfl ?_
  refine J_iload 124 dX9_readsComer_122 rfl rfl ?_
  refine J_aload_n (i := 0) 125 dX9_readsComer_124 rfl rfl rfl ?_
  refine J_getR 128 dX9_readsComer_125 rfl fX9_37 rfl rfl ?_
  refine J_iload 130 dX9_readsComer_128 rfl rfl ?_
  refine J_iald (N := 6) (lo := (-9)) (hi := 9) 131 dX9_readsComer_130 rfl rfl rfl rfl (fun b1 b2 => ?_)
  try simp +decide only [jup, ↓reduceIte] at b1 b2 ⊢
  refine J_if_ge 139 134 dX9_readsComer_131 rfl rfl (fun c3 => ?_) (fun c3 => ?_)
  · exfalso; omega
  · refine J_bipush 136 dX9_readsComer_134 rfl (by decide) ?_
    refine J_goto 147 dX9_readsComer_136 rfl ?_
    exact l_X9_comB2 (RF_trans hRF (RF_up (by omega))) hr hc e14
set_option maxHeartbeats 4000000 in
theorem l_X9_comG4 {cd : Int} (hRF : RF τ0 τ) (hpN : p + 6 ≤ N) (e12 : τ 36 12 = p + 6) (hE : pE f a v0 (p + 6) = (-1, 9, upV2 8 V r)) (hv : rvp V τ 6) (hc : 0 ≤ c ∧ c < 6) (e14 : V 0 1 = c) (hg : 1 ≤ V 0 0) (hr : 0 ≤ r ∧ r ≤ 9) : J P 3 (RX9, cX9_readsComer, 5, some .boolean) 211 [some (vr P 36), some (vi a), some (vi (N : Int)), some (vi cd), some (vi c)] [vi r, vi c, vr P 49] τ (qi (rcQ τ0 f a v0 N p)) := by
  have e2 := hv.2.1
  refine J_iast (N := 6) (lo := (-9)) (hi := 9) 212 dX9_readsComer_211 rfl rfl rfl rfl ?_
  refine J_aload_n (i := 0) 213 dX9_readsComer_212 rfl rfl rfl ?_
  refine J_dup 214 dX9_readsComer_213 rfl rfl ?_
  refine J_getI (jz := 14) (lo := 0) (hi := 6) 217 dX9_readsComer_214 rfl fX9_128 rfl rfl rfl rfl (fun b1 b2 => ?_)
  try simp +decide only [jup, ↓reduceIte] at b1 b2 ⊢
  refine J_iconst 218 dX9_readsComer_217 rfl ?_
  refine J_iadd 219 dX9_readsComer_218 rfl ?_
  refine J_putI (jz := 14) (lo := 0) (hi := 6) 222 dX9_readsComer_219 rfl gX9_128 rfl rfl rfl rfl ?_
  refine J_aload_n (i := 0) 223 dX9_readsComer_222 rfl rfl rfl ?_
  refine J_getR 226 dX9_readsComer_223 rfl fX9_46 rfl rfl ?_
  refine J_iload 228 dX9_readsComer_226 rfl rfl ?_
  refine J_iald (N := 6) (lo := (-9)) (hi := 9) 229 dX9_readsComer_228 rfl rfl rfl rfl (fun b3 b4 => ?_)
  try simp +decide only [jup, ↓reduceIte] at b3 b4 ⊢
  refine J_if_lt 236 232 dX9_readsComer_229 rfl rfl (fun c5 => ?_) (fun c5 => ?_)
  · exfalso; omega
  · refine J_iconst 233 dX9_readsComer_232 rfl ?_
    refine J_goto 237 dX9_readsComer_233 rfl ?_
    refine J_zret dX9_readsComer_237 rfl ?_
    refine ⟨RF_trans hRF (RF_trans (RF_up (by omega)) (RF_up (by omega))), Or.inl ⟨rfl, hpN, e12, _, hE, ?_, ?_, ?_⟩⟩
    · rw [← e2, ← e14]
      exact rvp_end (rvp_row hv (by omega) hr.1 (by omega))
    · show 1 ≤ V 0 1 + 1
      omega
    · exact hg
set_option maxHeartbeats 4000000 in
theorem l_X9_comG3 {cd : Int} (ha : 0 ≤ a ∧ a + N ≤ 240) (hN : N ≤ 60) (e63 : τ 63 = f) (hRF : RF τ0 τ) (hpN : p + 5 ≤ N) (e12 : τ 36 12 = p + 5) (hE : pE f a v0 (p + 5) = (-1, 8, jup V 5 (V 0 1) r)) (hv : rvp V τ 5) (hc : 0 ≤ c ∧ c < 6) (e14 : V 0 1 = c) (hg : 1 ≤ V 0 0) (hg3 : V 0 0 ≤ 3) (hr : 0 ≤ r ∧ r < V 0 0) : J P 3 (RX9, cX9_readsComer, 5, some .boolean) 181 [some (vr P 36), some (vi a), some (vi (N : Int)), some (vi cd), some (vi c)] [vi r, vi c, vr P 48] τ (qi (rcQ τ0 f a v0 N p)) := by
  have hv1 : rvp (jup V 5 (V 0 1) r) (jup τ 48 (V 0 1) r) 6 := rvp_row hv (by omega) hr.1 (fun _ => hr.2)
  have ec : jup V 5 (V 0 1) r 0 1 = c := e14
  rw [e14] at hv1
  have e2 : τ 36 14 = c := by rw [← e14]; exact hv.2.1.symm
  refine J_iast (N := 6) (lo := (-9)) (hi := 2) 182 dX9_readsComer_181 rfl rfl rfl rfl ?_
  refine J_aload_n (i := 0) 183 dX9_readsComer_182 rfl rfl rfl ?_
  refine J_getR 186 dX9_readsComer_183 rfl fX9_46 rfl rfl ?_
  refine J_iload 188 dX9_readsComer_186 rfl rfl ?_
  refine J_aload_n (i := 0) 189 dX9_readsComer_188 rfl rfl rfl ?_
  refine J_getR 192 dX9_readsComer_189 rfl fX9_43 rfl rfl ?_
  refine J_iload 194 dX9_readsComer_192 rfl rfl ?_
  refine J_iald (N := 6) (lo := (-9)) (hi := 2) 195 dX9_readsComer_194 rfl rfl rfl rfl (fun b1 b2 => ?_)
  try simp +decide only [jup, ↓reduceIte] at b1 b2 ⊢
  refine J_if_ge 203 198 dX9_readsComer_195 rfl rfl (fun c3 => ?_) (fun c3 => ?_)
  · refine J_aload_n (i := 0) 204 dX9_readsComer_203 rfl rfl rfl ?_
    refine J_iload_n (i := 1) 205 dX9_readsComer_204 rfl rfl rfl ?_
    refine J_iload_n (i := 2) 206 dX9_readsComer_205 rfl rfl rfl ?_
    refine J_bipush 208 dX9_readsComer_206 rfl (by decide) ?_
    refine J_callVi 211 dX9_readsComer_208 rfl kX9_124 mX9_figure rfl rfl rfl (c_X9_figure ha (by omega) (by omega)) (by first | decide | omega) rfl rfl (Nat.le_of_ble_eq_true rfl) (fun z5 s6 h4 => ?_)
    rw [e14] at hE
    have hq := fig_q (s := 8) (τ := jup τ 48 c r) (p := p + 5) (by omega) hE (by omega) (fun _ => by show V 0 1 < 6; omega) (by omega) (by rw [if_neg (by omega)]) (by omega) (show _ = f from (jup_ne (by omega)).trans e63) (show τ 36 12 = _ from e12) h4
    have hRF2 := RF_trans (RF_trans hRF (RF_up (by omega))) (RF_12 hq.1 hq.2.1)
    have hv2 := rvp_12 hv1 hq.1 hq.2.1
    have e14b : _ = c := (hq.2.1 14 (by omega)).trans e2
    rcases hq.2.2 with h | h
    · exact l_X9_comG4 hRF2 (by omega) h.2.2.2.1 h.2.2.2.2 hv2 hc e14 hg (by omega)
    · rw [h.1]
      exact l_X9_comB4 hRF2 (by rw [h.2.1]; exact h.2.2) hc e14b
  · exfalso; omega
set_option maxHeartbeats 4000000 in
theorem l_X9_comG2 {cd : Int} (ha : 0 ≤ a ∧ a + N ≤ 240) (hN : N ≤ 60) (e63 : τ 63 = f) (hRF : RF τ0 τ) (hpN : p + 4 ≤ N) (e12 : τ 36 12 = p + 4) (hE : pE f a v0 (p + 4) = (-1, 7, jup V 4 (V 0 1) r)) (hv : rvp V τ 4) (hc : 0 ≤ c ∧ c < 6) (e14 : V 0 1 = c) (hg : 1 ≤ V 0 0) (hg3 : V 0 0 ≤ 3) (hr : 0 ≤ r ∧ r ≤ 9) : J P 3 (RX9, cX9_readsComer, 5, some .boolean) 147 [some (vr P 36), some (vi a), some (vi (N : Int)), some (vi cd), some (vi c)] [vi r, vi c, vr P 47] τ (qi (rcQ τ0 f a v0 N p)) := by
  have hv1 : rvp (jup V 4 (V 0 1) r) (jup τ 47 (V 0 1) r) 5 := rvp_row hv (by omega) hr.1 (by omega)
  have ec : jup V 4 (V 0 1) r 0 1 = c := e14
  rw [e14] at hv1
  have e2 : τ 36 14 = c := by rw [← e14]; exact hv.2.1.symm
  have eg := hv.1
  refine J_iast (N := 6) (lo := (-9)) (hi := 9) 148 dX9_readsComer_147 rfl rfl rfl rfl ?_
  refine J_aload_n (i := 0) 149 dX9_readsComer_148 rfl rfl rfl ?_
  refine J_getR 152 dX9_readsComer_149 rfl fX9_43 rfl rfl ?_
  refine J_iload 154 dX9_readsComer_152 rfl rfl ?_
  refine J_aload_n (i := 0) 155 dX9_readsComer_154 rfl rfl rfl ?_
  refine J_getR 158 dX9_readsComer_155 rfl fX9_40 rfl rfl ?_
  refine J_iload 160 dX9_readsComer_158 rfl rfl ?_
  refine J_iald (N := 6) (lo := (-9)) (hi := 9) 161 dX9_readsComer_160 rfl rfl rfl rfl (fun b1 b2 => ?_)
  try simp +decide only [jup, ↓reduceIte] at b1 b2 ⊢
  refine J_if_ge 169 164 dX9_readsComer_161 rfl rfl (fun c3 => ?_) (fun c3 => ?_)
  · refine J_aload_n (i := 0) 170 dX9_readsComer_169 rfl rfl rfl ?_
    refine J_iload_n (i := 1) 171 dX9_readsComer_170 rfl rfl rfl ?_
    refine J_iload_n (i := 2) 172 dX9_readsComer_171 rfl rfl rfl ?_
    refine J_aload_n (i := 0) 173 dX9_readsComer_172 rfl rfl rfl ?_
    refine J_getI (jz := 13) (lo := 0) (hi := 3) 176 dX9_readsComer_173 rfl fX9_121 rfl rfl rfl rfl (fun b4 b5 => ?_)
    try simp +decide only [jup, ↓reduceIte] at b4 b5 ⊢
    refine J_iconst 177 dX9_readsComer_176 rfl ?_
    refine J_isub 178 dX9_readsComer_177 rfl ?_
    refine J_callVi 181 dX9_readsComer_178 rfl kX9_124 mX9_figure rfl rfl rfl (c_X9_figure ha (by omega) (by omega)) (by first | decide | omega) rfl rfl (Nat.le_of_ble_eq_true rfl) (fun z7 s8 h6 => ?_)
    rw [e14] at hE
    have hq := fig_q (s := 7) (τ := jup τ 47 c r) (p := p + 4) (by omega) hE (by omega) (fun _ => by show V 0 1 < 6; omega) (by omega) (by rw [if_pos rfl]; show _ = V 0 0 - 1; omega) (by omega) (show _ = f from (jup_ne (by omega)).trans e63) (show τ 36 12 = _ from e12) h6
    have hRF2 := RF_trans (RF_trans hRF (RF_up (by omega))) (RF_12 hq.1 hq.2.1)
    have hv2 := rvp_12 hv1 hq.1 hq.2.1
    have e14b : _ = c := (hq.2.1 14 (by omega)).trans e2
    have e63b : _ = f := (hq.1 63 (by omega)).trans ((jup_ne (by omega)).trans e63)
    rcases hq.2.2 with h | h
    · exact l_X9_comG3 ha hN e63b hRF2 (by omega) h.2.2.2.1 h.2.2.2.2 hv2 hc e14 hg hg3 ⟨h.1, by show _ < V 0 0; omega⟩
    · rw [h.1]
      exact l_X9_comB3 hRF2 (by rw [h.2.1]; exact h.2.2) hc e14b
  · exfalso; omega
set_option maxHeartbeats 4000000 in
theorem l_X9_comG1 {cd : Int} (ha : 0 ≤ a ∧ a + N ≤ 240) (hN : N ≤ 60) (e63 : τ 63 = f) (hRF : RF τ0 τ) (hpN : p + 3 ≤ N) (e12 : τ 36 12 = p + 3) (hE : pE f a v0 (p + 3) = (-1, 6, jup V 3 (V 0 1) r)) (hv : rvp V τ 3) (hc : 0 ≤ c ∧ c < 6) (e14 : V 0 1 = c) (hg : 1 ≤ V 0 0) (hg3 : V 0 0 ≤ 3) (hr : 0 ≤ r ∧ r ≤ 9) : J P 3 (RX9, cX9_readsComer, 5, some .boolean) 117 [some (vr P 36), some (vi a), some (vi (N : Int)), some (vi cd), some (vi c)] [vi r, vi c, vr P 46] τ (qi (rcQ τ0 f a v0 N p)) := by
  have hv1 : rvp (jup V 3 (V 0 1) r) (jup τ 46 (V 0 1) r) 4 := rvp_row hv (by omega) hr.1 (by omega)
  have ec : jup V 3 (V 0 1) r 0 1 = c := e14
  rw [e14] at hv1
  have e2 : τ 36 14 = c := by rw [← e14]; exact hv.2.1.symm
  refine J_iast (N := 6) (lo := (-9)) (hi := 9) 118 dX9_readsComer_117 rfl rfl rfl rfl ?_
  refine J_aload_n (i := 0) 119 dX9_readsComer_118 rfl rfl rfl ?_
  refine J_getR 122 dX9_readsComer_119 rfl fX9_40 rfl rfl ?_
  refine J_iload 124 dX9_readsComer_122 rfl rfl ?_
  refine J_aload_n (i := 0) 125 dX9_readsComer_124 rfl rfl rfl ?_
  refine J_getR 128 dX9_readsComer_125 rfl fX9_37 rfl rfl ?_
  refine J_iload 130 dX9_readsComer_128 rfl rfl ?_
  refine J_iald (N := 6) (lo := (-9)) (hi := 9) 131 dX9_readsComer_130 rfl rfl rfl rfl (fun b1 b2 => ?_)
  try simp +decide only [jup, ↓reduceIte] at b1 b2 ⊢
  refine J_if_ge 139 134 dX9_readsComer_131 rfl rfl (fun c3 => ?_) (fun c3 => ?_)
  · refine J_aload_n (i := 0) 140 dX9_readsComer_139 rfl rfl rfl ?_
    refine J_iload_n (i := 1) 141 dX9_readsComer_140 rfl rfl rfl ?_
    refine J_iload_n (i := 2) 142 dX9_readsComer_141 rfl rfl rfl ?_
    refine J_bipush 144 dX9_readsComer_142 rfl (by decide) ?_
    refine J_callVi 147 dX9_readsComer_144 rfl kX9_124 mX9_figure rfl rfl rfl (c_X9_figure ha (by omega) (by omega)) (by first | decide | omega) rfl rfl (Nat.le_of_ble_eq_true rfl) (fun z5 s6 h4 => ?_)
    rw [e14] at hE
    have hq := fig_q (s := 6) (τ := jup τ 46 c r) (p := p + 3) (by omega) hE (by omega) (fun _ => by show V 0 1 < 6; omega) (by omega) (by rw [if_neg (by omega)]) (by omega) (show _ = f from (jup_ne (by omega)).trans e63) (show τ 36 12 = _ from e12) h4
    have hRF2 := RF_trans (RF_trans hRF (RF_up (by omega))) (RF_12 hq.1 hq.2.1)
    have hv2 := rvp_12 hv1 hq.1 hq.2.1
    have e14b : _ = c := (hq.2.1 14 (by omega)).trans e2
    have e63b : _ = f := (hq.1 63 (by omega)).trans ((jup_ne (by omega)).trans e63)
    rcases hq.2.2 with h | h
    · exact l_X9_comG2 ha hN e63b hRF2 (by omega) h.2.2.2.1 h.2.2.2.2 hv2 hc e14 hg hg3 (by omega)
    · rw [h.1]
      exact l_X9_comB2 hRF2 (by rw [h.2.1]; exact h.2.2) hc e14b
  · exfalso; omega
set_option maxHeartbeats 4000000 in
theorem l_X9_comG0 {cd : Int} (ha : 0 ≤ a ∧ a + N ≤ 240) (hN : N ≤ 60) (e63 : τ 63 = f) (hRF : RF τ0 τ) (hpN : p + 2 ≤ N) (e12 : τ 36 12 = p + 2) (hE : pE f a v0 (p + 2) = (-1, 5, V)) (hv : rvp V τ 3) (hc : 0 ≤ c ∧ c < 6) (e14 : V 0 1 = c) (hg : 1 ≤ V 0 0) (hg3 : V 0 0 ≤ 3) : J P 3 (RX9, cX9_readsComer, 5, some .boolean) 103 [some (vr P 36), some (vi a), some (vi (N : Int)), some (vi cd), some (vi c)] [] τ (qi (rcQ τ0 f a v0 N p)) := by
  have e2 : τ 36 14 = c := by rw [← e14]; exact hv.2.1.symm
  refine J_aload_n (i := 0) 104 dX9_readsComer_103 rfl rfl rfl ?_
  refine J_getR 107 dX9_readsComer_104 rfl fX9_37 rfl rfl ?_
  refine J_iload 109 dX9_readsComer_107 rfl rfl ?_
  refine J_aload_n (i := 0) 110 dX9_readsComer_109 rfl rfl rfl ?_
  refine J_iload_n (i := 1) 111 dX9_readsComer_110 rfl rfl rfl ?_
  refine J_iload_n (i := 2) 112 dX9_readsComer_111 rfl rfl rfl ?_
  refine J_bipush 114 dX9_readsComer_112 rfl (by decide) ?_
  refine J_callVi 117 dX9_readsComer_114 rfl kX9_124 mX9_figure rfl rfl rfl (c_X9_figure ha (by omega) (by omega)) (by first | decide | omega) rfl rfl (Nat.le_of_ble_eq_true rfl) (fun z2 s3 h1 => ?_)
  have hq := fig_q (s := 5) (τ := τ) (p := p + 2) (by omega) hE (by omega) (fun _ => by omega) (by omega) (by rw [if_neg (by omega)]) (by omega) e63 (show τ 36 12 = _ from e12) h1
  have hRF2 := RF_trans hRF (RF_12 hq.1 hq.2.1)
  have hv2 := rvp_12 hv hq.1 hq.2.1
  have e14b : _ = c := (hq.2.1 14 (by omega)).trans e2
  have e63b : _ = f := (hq.1 63 (by omega)).trans e63
  rcases hq.2.2 with h | h
  · exact l_X9_comG1 ha hN e63b hRF2 (by omega) h.2.2.2.1 h.2.2.2.2 hv2 hc e14 hg hg3 (by omega)
  · rw [h.1]
    exact l_X9_comB1 hRF2 (by rw [h.2.1]; exact h.2.2) hc e14b
theorem l_X9_comGK {K : Int} (ha : 0 ≤ a ∧ a + N ≤ 240) (hN : N ≤ 60) (e63 : τ 63 = f) (e12 : τ 36 12 = p) (hok : pE f a v0 (p + 1) = (-1, 4, V)) (hv : rvp V τ 2) (hg : 1 ≤ V 0 0) (hg3 : V 0 0 ≤ 3) (hc : 0 ≤ V 0 1 ∧ V 0 1 < 6) (hK : (cdM f a N ((p + 1 : Nat) : Int) = 112 ∧ K = 0) ∨ (cdM f a N ((p + 1 : Nat) : Int) = 99 ∧ K = 1) ∨ (cdM f a N ((p + 1 : Nat) : Int) = 103 ∧ K = 2)) : J P 3 (RX9, cX9_readsComer, 5, some .boolean) 103 [some (vr P 36), some (vi a), some (vi (N : Int)), some (vi (cdM f a N ((p + 1 : Nat) : Int))), some (vi (τ 36 14))] [] (jup (jup (jup τ 36 12 (τ 36 12 + 1)) 36 12 (τ 36 12 + 1 + 1)) 45 (τ 36 14) K) (qi (rcQ τ f a v0 N p)) := by
  have hk := kind_ok hok hc.2 hK
  have e14 := hv.2.1
  have hv2 : rvp V (jup (jup τ 36 12 (τ 36 12 + 1)) 36 12 (τ 36 12 + 1 + 1)) 2 := rvp_12 (rvp_12 hv (fun q h => jup_ne (z := τ 36 12 + 1) (j := 12) h) (fun j h => jup_ne2 h)) (fun q h => jup_ne (z := τ 36 12 + 1 + 1) (j := 12) h) (fun j h => jup_ne2 h)
  have hv3 := rvp_row hv2 (z := K) (by omega) (by omega) (by omega)
  rw [e14] at hv3 hk
  refine l_X9_comG0 ha hN ?_ ?_ (by omega) ?_ hk.2 hv3 (by omega) ?_ hg hg3
  · rw [jup_ne (by omega), jup_ne (by omega), jup_ne (by omega)]; exact e63
  · exact RF_trans (RF_trans (RF_up (by omega)) (RF_up (by omega))) (RF_up (by omega))
  · rw [jup_ne (by omega), jup_at, e12]; omega
  · exact e14
set_option maxHeartbeats 4000000 in
theorem c_X9_readsComer (ha : 0 ≤ a ∧ a + N ≤ 240) (hN : N ≤ 60) (e63 : τ 63 = f) (e12 : τ 36 12 = p) (hp : p ≤ N) (hE : pE f a v0 p = (-1, s, V)) (hv : rvp V τ 2) (hg : 1 ≤ V 0 0) (hs : (s = 3 ∧ V 0 1 = 0 ∧ ¬ cdM f a N p = 44) ∨ (s = 9 ∧ 1 ≤ V 0 1 ∧ p < N)) : Ct P 3 yX9_readsComer cX9_readsComer 5 (some .boolean) [vr P 36, vi a, vi (N : Int)] τ (qi (rcQ τ f a v0 N p)) := by
  refine Ct.bd (fun hB => ?_)
  have eg := hv.1
  have e14 := hv.2.1
  have hg3 : 0 ≤ τ 36 13 ∧ τ 36 13 ≤ 3 := hB 36 13
  have hg6 : 0 ≤ τ 36 14 ∧ τ 36 14 ≤ 6 := hB 36 14
  have hcb := cdM_b (f := τ 63) (fun j => hB 63 j) a N p
  have hcb1 := cdM_b (f := τ 63) (fun j => hB 63 j) a N ((p + 1 : Nat) : Int)
  rw [e63] at hcb hcb1
  refine Ct.of _ rfl rfl rfl (Nat.le_of_ble_eq_true rfl) (fun hB => ?_)
  refine J_aload_n (i := 0) 1 dX9_readsComer_0 rfl rfl rfl ?_
  refine J_getI (jz := 14) (lo := 0) (hi := 6) 4 dX9_readsComer_1 rfl fX9_128 rfl rfl rfl rfl (fun b1 b2 => ?_)
  refine J_bipush 6 dX9_readsComer_4 rfl (by decide) ?_
  refine J_icmp_eq 20 9 dX9_readsComer_6 rfl rfl (fun c3 => ?_) (fun c3 => ?_)
  · refine J_iconst 21 dX9_readsComer_20 rfl ?_
    refine J_zret dX9_readsComer_21 rfl ?_
    exact ⟨RF_refl _, Or.inr ⟨rfl, by rw [e12]; exact com_err hE hp hs (by omega)⟩⟩
  · refine J_aload_n (i := 0) 10 dX9_readsComer_9 rfl rfl rfl ?_
    refine J_iload_n (i := 1) 11 dX9_readsComer_10 rfl rfl rfl ?_
    refine J_iload_n (i := 2) 12 dX9_readsComer_11 rfl rfl rfl ?_
    refine J_callVi 15 dX9_readsComer_12 rfl kX9_117 mX9_codeAt rfl rfl rfl (c_X9_codeAt ha (by omega)) (by first | decide | omega) rfl rfl (Nat.le_of_ble_eq_true rfl) (fun z5 s6 h4 => ?_)
    obtain ⟨hz, rfl⟩ := h4
    rw [e63, e12] at hz
    subst hz
    refine J_bipush 17 dX9_readsComer_15 rfl (by decide) ?_
    refine J_icmp_eq 22 20 dX9_readsComer_17 rfl rfl (fun c7 => ?_) (fun c7 => ?_)
    · have hok := com_ok (N := N) hE hs (by omega) (by omega)
      refine J_aload_n (i := 0) 23 dX9_readsComer_22 rfl rfl rfl ?_
      refine J_dup 24 dX9_readsComer_23 rfl rfl ?_
      refine J_getI (jz := 12) (lo := 0) (hi := 60) 27 dX9_readsComer_24 rfl fX9_114 rfl rfl rfl rfl (fun b8 b9 => ?_)
      refine J_iconst 28 dX9_readsComer_27 rfl ?_
      refine J_iadd 29 dX9_readsComer_28 rfl ?_
      refine J_putI (jz := 12) (lo := 0) (hi := 60) 32 dX9_readsComer_29 rfl gX9_114 rfl rfl rfl rfl ?_
      refine J_aload_n (i := 0) 33 dX9_readsComer_32 rfl rfl rfl ?_
      refine J_iload_n (i := 1) 34 dX9_readsComer_33 rfl rfl rfl ?_
      refine J_iload_n (i := 2) 35 dX9_readsComer_34 rfl rfl rfl ?_
      refine J_callVi 38 dX9_readsComer_35 rfl kX9_117 mX9_codeAt rfl rfl rfl (c_X9_codeAt ha (by omega)) (by first | decide | omega) rfl rfl (Nat.le_of_ble_eq_true rfl) (fun z11 s12 h10 => ?_)
      obtain ⟨hz, rfl⟩ := h10
      rw [show jup τ 36 12 (τ 36 12 + 1) 63 = f from (jup_ne (by omega)).trans e63, show jup τ 36 12 (τ 36 12 + 1) 36 12 = ((p + 1 : Nat) : Int) by rw [jup_at, e12]; rfl] at hz
      subst hz
      refine J_istore_n (i := 3) 39 dX9_readsComer_38 rfl rfl (by decide) ?_
      refine J_iload_n (i := 3) 40 dX9_readsComer_39 rfl rfl rfl ?_
      refine J_bipush 42 dX9_readsComer_40 rfl (by decide) ?_
      refine J_icmp_eq 59 45 dX9_readsComer_42 rfl rfl (fun c13 => ?_) (fun c13 => ?_)
      · have hpN1 : p + 1 < N := cdM_lt (f := f) (a := a) (p := p + 1) (by omega)
        refine J_aload_n (i := 0) 60 dX9_readsComer_59 rfl rfl rfl ?_
        refine J_dup 61 dX9_readsComer_60 rfl rfl ?_
        refine J_getI (jz := 12) (lo := 0) (hi := 60) 64 dX9_readsComer_61 rfl fX9_114 rfl rfl rfl rfl (fun b14 b15 => ?_)
        try simp +decide only [jup, ↓reduceIte] at b14 b15 ⊢
        refine J_iconst 65 dX9_readsComer_64 rfl ?_
        refine J_iadd 66 dX9_readsComer_65 rfl ?_
        refine J_putI (jz := 12) (lo := 0) (hi := 60) 69 dX9_readsComer_66 rfl gX9_114 rfl rfl rfl rfl ?_
        refine J_aload_n (i := 0) 70 dX9_readsComer_69 rfl rfl rfl ?_
        refine J_getI (jz := 14) (lo := 0) (hi := 6) 73 dX9_readsComer_70 rfl fX9_128 rfl rfl rfl rfl (fun b16 b17 => ?_)
        try simp +decide only [jup, ↓reduceIte] at b16 b17 ⊢
        refine J_istore 75 dX9_readsComer_73 rfl (by decide) ?_
        refine J_aload_n (i := 0) 76 dX9_readsComer_75 rfl rfl rfl ?_
        refine J_getR 79 dX9_readsComer_76 rfl fX9_34 rfl rfl ?_
        refine J_iload 81 dX9_readsComer_79 rfl rfl ?_
        refine J_iload_n (i := 3) 82 dX9_readsComer_81 rfl rfl rfl ?_
        refine J_bipush 84 dX9_readsComer_82 rfl (by decide) ?_
        refine J_icmp_ne 91 87 dX9_readsComer_84 rfl rfl (fun c18 => ?_) (fun c18 => ?_)
        · refine J_iload_n (i := 3) 92 dX9_readsComer_91 rfl rfl rfl ?_
          refine J_bipush 94 dX9_readsComer_92 rfl (by decide) ?_
          refine J_icmp_ne 101 97 dX9_readsComer_94 rfl rfl (fun c19 => ?_) (fun c19 => ?_)
          · refine J_iconst 102 dX9_readsComer_101 rfl ?_
            refine J_iast (N := 6) (lo := 0) (hi := 2) 103 dX9_readsComer_102 rfl rfl rfl rfl ?_
            exact l_X9_comGK ha hN e63 e12 hok.2 hv hg (by omega) (by omega) (by omega)
          · refine J_iconst 98 dX9_readsComer_97 rfl ?_
            refine J_goto 102 dX9_readsComer_98 rfl ?_
            refine J_iast (N := 6) (lo := 0) (hi := 2) 103 dX9_readsComer_102 rfl rfl rfl rfl ?_
            exact l_X9_comGK ha hN e63 e12 hok.2 hv hg (by omega) (by omega) (by omega)
        · refine J_iconst 88 dX9_readsComer_87 rfl ?_
          refine J_goto 102 dX9_readsComer_88 rfl ?_
          refine J_iast (N := 6) (lo := 0) (hi := 2) 103 dX9_readsComer_102 rfl rfl rfl rfl ?_
          exact l_X9_comGK ha hN e63 e12 hok.2 hv hg (by omega) (by omega) (by omega)
      · refine J_iload_n (i := 3) 46 dX9_readsComer_45 rfl rfl rfl ?_
        refine J_bipush 48 dX9_readsComer_46 rfl (by decide) ?_
        refine J_icmp_eq 59 51 dX9_readsComer_48 rfl rfl (fun c20 => ?_) (fun c20 => ?_)
        · have hpN1 : p + 1 < N := cdM_lt (f := f) (a := a) (p := p + 1) (by omega)
          refine J_aload_n (i := 0) 60 dX9_readsComer_59 rfl rfl rfl ?_
          refine J_dup 61 dX9_readsComer_60 rfl rfl ?_
          refine J_getI (jz := 12) (lo := 0) (hi := 60) 64 dX9_readsComer_61 rfl fX9_114 rfl rfl rfl rfl (fun b21 b22 => ?_)
          try simp +decide only [jup, ↓reduceIte] at b21 b22 ⊢
          refine J_iconst 65 dX9_readsComer_64 rfl ?_
          refine J_iadd 66 dX9_readsComer_65 rfl ?_
          refine J_putI (jz := 12) (lo := 0) (hi := 60) 69 dX9_readsComer_66 rfl gX9_114 rfl rfl rfl rfl ?_
          refine J_aload_n (i := 0) 70 dX9_readsComer_69 rfl rfl rfl ?_
          refine J_getI (jz := 14) (lo := 0) (hi := 6) 73 dX9_readsComer_70 rfl fX9_128 rfl rfl rfl rfl (fun b23 b24 => ?_)
          try simp +decide only [jup, ↓reduceIte] at b23 b24 ⊢
          refine J_istore 75 dX9_readsComer_73 rfl (by decide) ?_
          refine J_aload_n (i := 0) 76 dX9_readsComer_75 rfl rfl rfl ?_
          refine J_getR 79 dX9_readsComer_76 rfl fX9_34 rfl rfl ?_
          refine J_iload 81 dX9_readsComer_79 rfl rfl ?_
          refine J_iload_n (i := 3) 82 dX9_readsComer_81 rfl rfl rfl ?_
          refine J_bipush 84 dX9_readsComer_82 rfl (by decide) ?_
          refine J_icmp_ne 91 87 dX9_readsComer_84 rfl rfl (fun c25 => ?_) (fun c25 => ?_)
          · refine J_iload_n (i := 3) 92 dX9_readsComer_91 rfl rfl rfl ?_
            refine J_bipush 94 dX9_readsComer_92 rfl (by decide) ?_
            refine J_icmp_ne 101 97 dX9_readsComer_94 rfl rfl (fun c26 => ?_) (fun c26 => ?_)
            · refine J_iconst 102 dX9_readsComer_101 rfl ?_
              refine J_iast (N := 6) (lo := 0) (hi := 2) 103 dX9_readsComer_102 rfl rfl rfl rfl ?_
              exact l_X9_comGK ha hN e63 e12 hok.2 hv hg (by omega) (by omega) (by omega)
            · refine J_iconst 98 dX9_readsComer_97 rfl ?_
              refine J_goto 102 dX9_readsComer_98 rfl ?_
              refine J_iast (N := 6) (lo := 0) (hi := 2) 103 dX9_readsComer_102 rfl rfl rfl rfl ?_
              exact l_X9_comGK ha hN e63 e12 hok.2 hv hg (by omega) (by omega) (by omega)
          · refine J_iconst 88 dX9_readsComer_87 rfl ?_
            refine J_goto 102 dX9_readsComer_88 rfl ?_
            refine J_iast (N := 6) (lo := 0) (hi := 2) 103 dX9_readsComer_102 rfl rfl rfl rfl ?_
            exact l_X9_comGK ha hN e63 e12 hok.2 hv hg (by omega) (by omega) (by omega)
        · refine J_iload_n (i := 3) 52 dX9_readsComer_51 rfl rfl rfl ?_
          refine J_bipush 54 dX9_readsComer_52 rfl (by decide) ?_
          refine J_icmp_eq 59 57 dX9_readsComer_54 rfl rfl (fun c27 => ?_) (fun c27 => ?_)
          · have hpN1 : p + 1 < N := cdM_lt (f := f) (a := a) (p := p + 1) (by omega)
            refine J_aload_n (i := 0) 60 dX9_readsComer_59 rfl rfl rfl ?_
            refine J_dup 61 dX9_readsComer_60 rfl rfl ?_
            refine J_getI (jz := 12) (lo := 0) (hi := 60) 64 dX9_readsComer_61 rfl fX9_114 rfl rfl rfl rfl (fun b28 b29 => ?_)
            try simp +decide only [jup, ↓reduceIte] at b28 b29 ⊢
            refine J_iconst 65 dX9_readsComer_64 rfl ?_
            refine J_iadd 66 dX9_readsComer_65 rfl ?_
            refine J_putI (jz := 12) (lo := 0) (hi := 60) 69 dX9_readsComer_66 rfl gX9_114 rfl rfl rfl rfl ?_
            refine J_aload_n (i := 0) 70 dX9_readsComer_69 rfl rfl rfl ?_
            refine J_getI (jz := 14) (lo := 0) (hi := 6) 73 dX9_readsComer_70 rfl fX9_128 rfl rfl rfl rfl (fun b30 b31 => ?_)
            try simp +decide only [jup, ↓reduceIte] at b30 b31 ⊢
            refine J_istore 75 dX9_readsComer_73 rfl (by decide) ?_
            refine J_aload_n (i := 0) 76 dX9_readsComer_75 rfl rfl rfl ?_
            refine J_getR 79 dX9_readsComer_76 rfl fX9_34 rfl rfl ?_
            refine J_iload 81 dX9_readsComer_79 rfl rfl ?_
            refine J_iload_n (i := 3) 82 dX9_readsComer_81 rfl rfl rfl ?_
            refine J_bipush 84 dX9_readsComer_82 rfl (by decide) ?_
            refine J_icmp_ne 91 87 dX9_readsComer_84 rfl rfl (fun c32 => ?_) (fun c32 => ?_)
            · refine J_iload_n (i := 3) 92 dX9_readsComer_91 rfl rfl rfl ?_
              refine J_bipush 94 dX9_readsComer_92 rfl (by decide) ?_
              refine J_icmp_ne 101 97 dX9_readsComer_94 rfl rfl (fun c33 => ?_) (fun c33 => ?_)
              · refine J_iconst 102 dX9_readsComer_101 rfl ?_
                refine J_iast (N := 6) (lo := 0) (hi := 2) 103 dX9_readsComer_102 rfl rfl rfl rfl ?_
                exact l_X9_comGK ha hN e63 e12 hok.2 hv hg (by omega) (by omega) (by omega)
              · refine J_iconst 98 dX9_readsComer_97 rfl ?_
                refine J_goto 102 dX9_readsComer_98 rfl ?_
                refine J_iast (N := 6) (lo := 0) (hi := 2) 103 dX9_readsComer_102 rfl rfl rfl rfl ?_
                exact l_X9_comGK ha hN e63 e12 hok.2 hv hg (by omega) (by omega) (by omega)
            · refine J_iconst 88 dX9_readsComer_87 rfl ?_
              refine J_goto 102 dX9_readsComer_88 rfl ?_
              refine J_iast (N := 6) (lo := 0) (hi := 2) 103 dX9_readsComer_102 rfl rfl rfl rfl ?_
              exact l_X9_comGK ha hN e63 e12 hok.2 hv hg (by omega) (by omega) (by omega)
          · refine J_iconst 58 dX9_readsComer_57 rfl ?_
            refine J_zret dX9_readsComer_58 rfl ?_
            refine ⟨RF_up (by omega), Or.inr ⟨rfl, ?_⟩⟩
            have hke := kind_err (N := N) hok.2 (by omega) (by omega)
            rw [jup_at, e12, hke]
            rfl
    · refine J_iconst 21 dX9_readsComer_20 rfl ?_
      refine J_zret dX9_readsComer_21 rfl ?_
      exact ⟨RF_refl _, Or.inr ⟨rfl, by rw [e12]; exact com_err hE hp hs (by omega)⟩⟩
end

