/-! ===== what all at a gate eat together ===== -/
theorem sumN_congr {f g : Int → Int} : ∀ n : Nat, (∀ c : Int, 0 ≤ c → c < n → f c = g c) → sumN f n = sumN g n := by
  intro n
  induction n with
  | zero => intro _; rfl
  | succ n ih =>
    intro h
    simp only [sumN]
    rw [ih (fun c h1 h2 => h c h1 (by omega)), h n (by omega) (by omega)]
theorem sumN_one {f g : Int → Int} {x : Nat} : ∀ n : Nat, x < n → (∀ c : Int, 0 ≤ c → c < n → c ≠ x → f c = g c) → sumN f n = sumN g n + (f x - g x) := by
  intro n
  induction n with
  | zero => intro h; omega
  | succ n ih =>
    intro hx h
    simp only [sumN]
    by_cases e : x = n
    · subst e
      rw [sumN_congr x (fun c h1 h2 => h c h1 (by omega) (by omega))]
      omega
    · rw [ih (by omega) (fun c h1 h2 h3 => h c h1 (by omega) h3), h n (by omega) (by omega) (by omega)]
      omega
theorem sumN_0 : ∀ n : Nat, sumN (fun _ => 0) n = 0 := by
  intro n
  induction n with
  | zero => rfl
  | succ n ih => simp only [sumN]; omega
def nzN (w : Int → Int) : Nat → Nat
  | 0 => 0
  | n + 1 => if w n = 0 then nzN w n else nzN w n + 1
theorem nz_0 {w : Int → Int} : ∀ n : Nat, nzN w n = 0 → ∀ c : Int, 0 ≤ c → c < n → w c = 0 := by
  intro n
  induction n with
  | zero => intro _ c h1 h2; omega
  | succ n ih =>
    intro h c h1 h2
    simp only [nzN] at h
    by_cases e : w n = 0
    · rw [if_pos e] at h
      by_cases e2 : c = n
      · rw [e2]; exact e
      · exact ih h c h1 (by omega)
    · rw [if_neg e] at h; omega
theorem nz_congr {w u : Int → Int} : ∀ n : Nat, (∀ c : Int, 0 ≤ c → c < n → w c = u c) → nzN w n = nzN u n := by
  intro n
  induction n with
  | zero => intro _; rfl
  | succ n ih =>
    intro h
    simp only [nzN]
    rw [ih (fun c h1 h2 => h c h1 (by omega)), h n (by omega) (by omega)]
def zap (w : Int → Int) (x : Int) (c : Int) : Int := if c = x then 0 else w c
theorem nz_zap {w : Int → Int} {x : Nat} : ∀ n : Nat, x < n → ¬ w x = 0 → nzN w n = nzN (zap w x) n + 1 := by
  intro n
  induction n with
  | zero => intro h; omega
  | succ n ih =>
    intro hx hw
    simp only [nzN]
    by_cases e : x = n
    · subst e
      have e1 : zap w x x = 0 := by unfold zap; rw [if_pos rfl]
      rw [if_neg hw, if_pos e1, nz_congr (w := w) (u := zap w x) x (fun c h1 h2 => by unfold zap; rw [if_neg (by omega)])]
    · have e1 : zap w x n = w n := by unfold zap; rw [if_neg (by omega)]
      rw [ih (by omega) hw, e1]
      split <;> rfl
theorem nz_min {w r : Int → Int} : ∀ n : Nat, ¬ nzN w n = 0 → ∃ x : Nat, x < n ∧ ¬ w x = 0 ∧ ∀ c : Nat, c < n → ¬ w c = 0 → r x ≤ r c := by
  intro n
  induction n with
  | zero => intro h; exact absurd rfl h
  | succ n ih =>
    intro h
    by_cases e0 : nzN w n = 0
    · have hz := nz_0 n e0
      simp only [nzN] at h
      have hn : ¬ w n = 0 := fun q => by rw [if_pos q] at h; exact h e0
      refine ⟨n, by omega, hn, fun c hc hw => ?_⟩
      by_cases e : c = n
      · rw [e]; omega
      · exact absurd (hz c (by omega) (by omega)) hw
    · obtain ⟨x, h1, h2, h3⟩ := ih e0
      by_cases e : w n = 0
      · refine ⟨x, by omega, h2, fun c hc hw => ?_⟩
        by_cases e2 : c = n
        · subst e2; exact absurd e hw
        · exact h3 c (by omega) hw
      · by_cases e3 : r x ≤ r n
        · refine ⟨x, by omega, h2, fun c hc hw => ?_⟩
          by_cases e2 : c = n
          · rw [e2]; exact e3
          · exact h3 c (by omega) hw
        · refine ⟨n, by omega, e, fun c hc hw => ?_⟩
          by_cases e2 : c = n
          · rw [e2]; omega
          · have := h3 c (by omega) hw
            omega
def ahN (r w : Int → Int) (n : Nat) (c : Int) : Int := sumN (fun d => if r c < r d then w d else 0) n
theorem clamp_0 (x : Int) : clampM x 0 = 0 := by unfold clampM; split <;> (try split) <;> omega
theorem eat_all {r : Int → Int} {L : Int} {n : Nat} (hL : 0 ≤ L) (hr : ∀ a b : Nat, a < n → b < n → r a = r b → a = b) : ∀ (m : Nat) (w : Int → Int), nzN w n = m → (∀ c, 0 ≤ w c) → sumN (fun c => clampM (L - ahN r w n c) (w c)) n = if sumN w n < L then sumN w n else L := by
  intro m
  induction m with
  | zero =>
    intro w hm hw
    have hz := nz_0 n hm
    rw [sumN_congr (g := fun _ => 0) n (fun c h1 h2 => by rw [hz c h1 h2]; exact clamp_0 _), sumN_congr (f := w) (g := fun _ => 0) n (fun c h1 h2 => hz c h1 h2), sumN_0]
    split <;> omega
  | succ m ih =>
    intro w hm hw
    obtain ⟨x, hx, hwx, hmin⟩ := nz_min (w := w) (r := r) n (by omega)
    have hz := nz_zap n hx hwx
    have hw2 : ∀ c, 0 ≤ zap w x c := fun c => by unfold zap; split <;> first | omega | exact hw c
    have h1 := ih (zap w x) (by omega) hw2
    have hzx : zap w x x = 0 := by unfold zap; rw [if_pos rfl]
    have hH : sumN w n = sumN (zap w x) n + w x := by
      rw [sumN_one (f := w) (g := zap w x) n hx (fun c _ _ h => by unfold zap; rw [if_neg h]), hzx]
      omega
    have hah : ∀ c : Int, 0 ≤ c → c < n → c ≠ x → ¬ w c = 0 → ahN r w n c = ahN r (zap w x) n c := by
      intro c h1 h2 h3 h4
      have hc := hmin c.toNat (by omega) (by rw [show ((c.toNat : Nat) : Int) = c by omega]; exact h4)
      rw [show ((c.toNat : Nat) : Int) = c by omega] at hc
      unfold ahN
      refine sumN_congr n (fun d _ _ => ?_)
      show (if r c < r d then w d else 0) = if r c < r d then zap w x d else 0
      unfold zap
      by_cases e : d = x
      · rw [e, if_neg (by omega), if_neg (by omega)]
      · rw [if_neg e]
    have hax : ahN r w n x = sumN (zap w x) n := by
      unfold ahN
      refine sumN_congr n (fun d h1 h2 => ?_)
      show (if r x < r d then w d else 0) = zap w x d
      unfold zap
      by_cases e : d = x
      · rw [if_pos e, e, if_neg (by omega)]
      · rw [if_neg e]
        by_cases e2 : w d = 0
        · rw [e2]; split <;> rfl
        · have h3 := hmin d.toNat (by omega) (by rw [show ((d.toNat : Nat) : Int) = d by omega]; exact e2)
          rw [show ((d.toNat : Nat) : Int) = d by omega] at h3
          have h4 : ¬ r x = r d := fun q => by
            have := hr x d.toNat hx (by omega) (by rw [show ((d.toNat : Nat) : Int) = d by omega]; exact q)
            omega
          rw [if_pos (by omega)]
    have hsum : sumN (fun c => clampM (L - ahN r w n c) (w c)) n = sumN (fun c => clampM (L - ahN r (zap w x) n c) (zap w x c)) n + clampM (L - sumN (zap w x) n) (w x) := by
      rw [sumN_one (f := fun c => clampM (L - ahN r w n c) (w c)) (g := fun c => clampM (L - ahN r (zap w x) n c) (zap w x c)) n hx (fun c h1 h2 h3 => by
        show clampM (L - ahN r w n c) (w c) = clampM (L - ahN r (zap w x) n c) (zap w x c)
        have e1 : zap w x c = w c := by unfold zap; rw [if_neg h3]
        rw [e1]
        by_cases e : w c = 0
        · rw [e, clamp_0, clamp_0]
        · rw [hah c h1 h2 h3 e])]
      rw [hax, hzx, clamp_0]
      omega
    have hwx0 := hw x
    rw [hsum, h1, hH]
    unfold clampM
    generalize sumN (zap w x) n = A
    generalize w x = b at hwx0
    by_cases c1 : A < L
    · rw [if_pos c1]
      by_cases c2 : b < L - A
      · rw [if_pos c2]
        by_cases c3 : 0 < b
        · rw [if_pos c3, if_pos (by omega)]
        · rw [if_neg c3, if_pos (by omega)]; omega
      · rw [if_neg c2, if_pos (by omega), if_neg (by omega)]; omega
    · rw [if_neg c1]
      by_cases c2 : b < L - A
      · omega
      · rw [if_neg c2, if_neg (by omega), if_neg (by omega)]; omega
theorem rank_inj {v : jS} (h : wvB v) {a b : Int} (ha : 0 ≤ a ∧ a < 6) (hb : 0 ≤ b ∧ b < 6) (e : rankM v a = rankM v b) : a = b := by
  obtain ⟨h1, h2, h3, h4, h5, h6, h7, h8, h9, h10⟩ := h
  have x1 := h10 a
  have x2 := h10 b
  unfold rankM at e
  generalize (if v 0 2 = 0 then lookM v a else if v 0 2 = 1 then v 3 a else 0) = p at e
  generalize (if v 0 2 = 0 then lookM v b else if v 0 2 = 1 then v 3 b else 0) = q at e
  omega
def eatAt (v : jS) (g c : Int) : Int := if v 5 c = g then eatsM v c else 0
theorem left_eq {v : jS} (h : wvB v) (g : Int) : v 1 g - sumN (eatAt v g) (nM v) = leftM v g := by
  have hn : nM v ≤ 6 := by have := h.2.1; unfold nM; omega
  have hL := h.2.2.2.2.1 g
  have key := eat_all (r := rankM v) (L := v 1 g) (n := nM v) hL.1 (fun a b h1 h2 e => by
    have := rank_inj h (a := a) (b := b) (by omega) (by omega) e
    omega) _ (leftF v g) rfl (fun c => (leftF_b h g c).1)
  have e1 : sumN (eatAt v g) (nM v) = sumN (fun c => clampM (v 1 g - ahN (rankM v) (leftF v g) (nM v) c) (leftF v g c)) (nM v) := by
    refine sumN_congr _ (fun c h1 h2 => ?_)
    show eatAt v g c = clampM (v 1 g - ahN (rankM v) (leftF v g) (nM v) c) (leftF v g c)
    unfold eatAt
    by_cases e : v 5 c = g
    · have e2 : leftF v g c = v 3 c := by unfold leftF; rw [if_pos e]
      have e3 : ahN (rankM v) (leftF v g) (nM v) c = sumN (takeF v c) (nM v) := by
        unfold ahN
        refine sumN_congr _ (fun d _ _ => ?_)
        show (if rankM v c < rankM v d then leftF v g d else 0) = takeF v c d
        unfold leftF takeF
        rw [e]
        by_cases c1 : rankM v c < rankM v d
        · rw [if_pos c1]
          by_cases c2 : v 5 d = g
          · rw [if_pos c2, if_pos ⟨c2, c1⟩]
          · rw [if_neg c2, if_neg (fun q => c2 q.1)]
        · rw [if_neg c1, if_neg (fun q => c1 q.2)]
      rw [if_pos e, e2, e3]
      unfold eatsM
      rw [e]
    · have e2 : leftF v g c = 0 := by unfold leftF; rw [if_neg e]
      rw [if_neg e, e2, clamp_0]
  rw [e1, key]
  unfold leftM
  split <;> split <;> omega

