/-! ===== how far, and what is given, by both ways of reckoning ===== -/
theorem bit_0 {s n m : Nat} (hs : s < 2 ^ n) (h : n ≤ m) : iand ((s / 2 ^ m : Nat) : Int) 1 = 0 := by
  have : s / 2 ^ m = 0 := Nat.div_eq_of_lt (Nat.lt_of_lt_of_le hs (Nat.pow_le_pow_right (by omega) h))
  rw [this]
  rfl
theorem orN_hi {kn : Int → Int} {s : Int} {n : Nat} (hs : s.toNat < 2 ^ n) : ∀ m, n ≤ m → orN kn s m = orN kn s n := by
  intro m
  induction m with
  | zero => intro h; rw [show n = 0 by omega]
  | succ m ih =>
    intro h
    by_cases e : n = m + 1
    · rw [e]
    · simp only [orN]
      rw [Int.toNat_natCast, bit_0 hs (show n ≤ m by omega), if_neg (by omega)]
      exact ih (by omega)
theorem orN_c {kn kn' : Int → Int} {s : Int} : ∀ n : Nat, (∀ j : Int, 0 ≤ j → j < n → kn j = kn' j) → orN kn s n = orN kn' s n := by
  intro n
  induction n with
  | zero => intro _; rfl
  | succ n ih =>
    intro h
    simp only [orN]
    rw [ih (fun j a b => h j a (by omega)), h n (by omega) (by omega)]
theorem orN_lt {kn : Int → Int} {s : Int} {n : Nat} (h : ∀ j : Int, 0 ≤ j → j < n → (kn j).toNat < 2 ^ n) : ∀ m : Nat, m ≤ n → (orN kn s m).toNat < 2 ^ n := by
  intro m
  induction m with
  | zero => intro _; exact Nat.two_pow_pos n
  | succ m ih =>
    intro hm
    simp only [orN]
    split
    · unfold ior
      rw [Int.toNat_natCast]
      exact Nat.or_lt_two_pow (ih (by omega)) (h m (by omega) (by omega))
    · exact ih (by omega)
theorem far_eqN {kn kn' : Int → Int} {n : Nat} (hn : n ≤ 6) (hk : ∀ j : Int, 0 ≤ j → j < n → kn j = kn' j) (hb : ∀ j : Int, 0 ≤ j → j < n → (kn j).toNat < 2 ^ n) (d : Int) : ∀ (k : Nat) (s t : Int), s.toNat < 2 ^ n → farN kn d k s t = farG n kn' d k s t := by
  intro k
  induction k with
  | zero => intro s t _; rfl
  | succ k ih =>
    intro s t hs
    simp only [farN, farG]
    have e : orN kn s 6 = orN kn' s n := (orN_hi hs 6 hn).trans (orN_c n hk)
    rw [e]
    have hlt : (ior s (orN kn' s n)).toNat < 2 ^ n := by
      unfold ior
      rw [Int.toNat_natCast]
      refine Nat.or_lt_two_pow hs ?_
      rw [← orN_c n hk]
      exact orN_lt hb n (Nat.le_refl n)
    rw [ih _ _ hlt]
theorem far_eq {kn kn' : Int → Int} {n : Nat} (hn : n ≤ 6) (hk : ∀ j : Int, 0 ≤ j → j < n → kn j = kn' j) (hb : ∀ j : Int, 0 ≤ j → j < n → (kn j).toNat < 2 ^ n) {c d : Int} (hc : 0 ≤ c ∧ c < n) : farM kn c d = farR n kn' c d := by
  refine far_eqN hn hk hb d 6 _ 0 ?_
  have e : ((2 : Int) ^ c.toNat).toNat = 2 ^ c.toNat := by
    rw [show ((2 : Int) ^ c.toNat) = ((2 ^ c.toNat : Nat) : Int) by rw [Int.natCast_pow]; rfl, Int.toNat_natCast]
  rw [e]
  exact Nat.pow_lt_pow_right (by omega) (by omega)
def mnP (Pr : Int → Prop) (r : Int) : Prop := (r ≠ -9 → Pr r) ∧ ∀ z, Pr z → r ≠ -9 ∧ r ≤ z
theorem mnP_one {Pr Pr' : Int → Prop} {r r' : Int} (h : mnP Pr r) (h' : mnP Pr' r') (e : ∀ z, Pr z ↔ Pr' z) : r = r' := by
  by_cases e1 : r = -9
  · by_cases e2 : r' = -9
    · rw [e1, e2]
    · exact absurd e1 (h.2 r' ((e r').mpr (h'.1 e2))).1
  · have p1 := h.1 e1
    have q1 := h'.2 r ((e r).mp p1)
    have p2 := h'.1 q1.1
    have q2 := h.2 r' ((e r').mpr p2)
    omega
theorem mnN_P {f : Nat → Int} (hf : ∀ w, f w = -9 ∨ 0 ≤ f w) : ∀ N, mnP (fun z => z ≠ -9 ∧ ∃ w, w < N ∧ f w = z) (mnN f N) := by
  intro N
  induction N with
  | zero => exact ⟨fun h => absurd rfl h, fun z h => by obtain ⟨_, w, hw, _⟩ := h; omega⟩
  | succ N ih =>
    have hN := hf N
    simp only [mnN]
    have hneg : mnN f N = -9 ∨ 0 ≤ mnN f N := by
      by_cases e : mnN f N = -9
      · exact Or.inl e
      · obtain ⟨_, w, _, hw⟩ := ih.1 e
        have := hf w
        omega
    by_cases e : 0 ≤ f N ∧ (mnN f N < 0 ∨ f N < mnN f N)
    · rw [if_pos e]
      refine ⟨fun _ => ⟨by omega, N, by omega, rfl⟩, fun z h => ?_⟩
      obtain ⟨h1, w, h2, h3⟩ := h
      by_cases ew : w = N
      · subst ew; omega
      · have := ih.2 z ⟨h1, w, by omega, h3⟩
        omega
    · rw [if_neg e]
      refine ⟨fun h => ?_, fun z h => ?_⟩
      · obtain ⟨h1, w, h2, h3⟩ := ih.1 h
        exact ⟨h1, w, by omega, h3⟩
      · obtain ⟨h1, w, h2, h3⟩ := h
        by_cases ew : w = N
        · subst ew; omega
        · exact ih.2 z ⟨h1, w, by omega, h3⟩
def attC (out : Int → Bool) (fr : Int → Int → Int) (n : Int) : Nat → Int → (Int → Int) → Int → Prop
  | 0, _, _, z => z = 0
  | k + 1, c, sp, z => if out c = true then ∃ g z', (0 ≤ g ∧ g < n) ∧ 0 < sp g ∧ 0 ≤ fr g c ∧ attC out fr n k (c + 1) (decF sp g) z' ∧ z = fr g c + z' else attC out fr n k (c + 1) sp z
def cntO (out : Int → Bool) : Nat → Int → Nat
  | 0, _ => 0
  | k + 1, c => if out c = true then cntO out k (c + 1) + 1 else cntO out k (c + 1)
theorem refW_att {nn : Nat} (hn : 0 < nn) {out : Int → Bool} {fr : Int → Int → Int} (hf : ∀ g c, fr g c ≤ 6) : ∀ (k : Nat) (c : Int) (sp : Int → Int) (z : Int), (z ≠ -9 ∧ ∃ w : Nat, w < nn ^ cntO out k c ∧ refW nn out fr k c w sp = z) ↔ attC out fr nn k c sp z := by
  intro k
  induction k with
  | zero =>
    intro c sp z
    simp only [refW, attC, cntO]
    constructor
    · intro h; obtain ⟨_, w, _, h⟩ := h; exact h.symm
    · intro h; exact ⟨by omega, 0, by simp, h.symm⟩
  | succ k ih =>
    intro c sp z
    simp only [refW, attC, cntO]
    by_cases e : out c = true
    · simp only [if_pos e]
      constructor
      · intro h
        obtain ⟨h1, w, h2, h3⟩ := h
        have em : ((w : Int) % (nn : Int)) = ((w % nn : Nat) : Int) := (Int.natCast_emod w nn).symm
        have ed : ((w : Int) / (nn : Int)) = ((w / nn : Nat) : Int) := (Int.natCast_ediv w nn).symm
        rw [em, ed] at h3
        have hlt : w % nn < nn := Nat.mod_lt w hn
        by_cases e2 : (0 < sp ((w % nn : Nat) : Int) ∧ 0 ≤ fr ((w % nn : Nat) : Int) c) ∧ refW nn out fr k (c + 1) ((w / nn : Nat) : Int) (decF sp ((w % nn : Nat) : Int)) ≠ -9
        · rw [if_pos e2] at h3
          refine ⟨((w % nn : Nat) : Int), refW nn out fr k (c + 1) ((w / nn : Nat) : Int) (decF sp ((w % nn : Nat) : Int)), ⟨by omega, by omega⟩, e2.1.1, e2.1.2, ?_, h3.symm⟩
          refine (ih (c + 1) _ _).mp ⟨e2.2, w / nn, ?_, rfl⟩
          rw [Nat.pow_succ, Nat.mul_comm] at h2
          exact Nat.div_lt_of_lt_mul h2
        · rw [if_neg e2] at h3; exact absurd h3.symm h1
      · intro h
        obtain ⟨g, z', h1, h2, h3, h4, h5⟩ := h
        obtain ⟨g0, rfl⟩ : ∃ g0 : Nat, g = (g0 : Int) := ⟨g.toNat, by omega⟩
        obtain ⟨h6, w, h7, h8⟩ := (ih (c + 1) _ _).mpr h4
        have hz := refW_b (n := nn) (out := out) (fr := fr) hf k (c + 1) w (decF sp g0)
        have hg : g0 < nn := by omega
        refine ⟨by omega, w * nn + g0, ?_, ?_⟩
        · rw [Nat.pow_succ]
          calc w * nn + g0 < w * nn + nn := by omega
            _ = (w + 1) * nn := by rw [Nat.add_mul, Nat.one_mul]
            _ ≤ nn ^ cntO out k (c + 1) * nn := Nat.mul_le_mul_right nn h7
        · have em : (((w * nn + g0 : Nat) : Int) % (nn : Int)) = (g0 : Int) := by
            rw [← Int.natCast_emod, Nat.mul_comm w nn, Nat.mul_add_mod, Nat.mod_eq_of_lt hg]
          have ed : (((w * nn + g0 : Nat) : Int) / (nn : Int)) = (w : Int) := by
            rw [← Int.natCast_ediv, Nat.mul_comm w nn, Nat.mul_add_div hn, Nat.div_eq_of_lt hg, Nat.add_zero]
          rw [em, ed, h8, if_pos ⟨⟨h2, h3⟩, h6⟩, h5]
    · simp only [if_neg e]
      exact ih (c + 1) sp z
theorem att_nn {out : Int → Bool} {fr : Int → Int → Int} {n : Int} : ∀ (k : Nat) (c : Int) (sp : Int → Int) (z : Int), attC out fr n k c sp z → 0 ≤ z := by
  intro k
  induction k with
  | zero => intro c sp z h; simp only [attC] at h; omega
  | succ k ih =>
    intro c sp z h
    simp only [attC] at h
    by_cases e : out c = true
    · rw [if_pos e] at h
      obtain ⟨g, z', h1, h2, h3, h4, h5⟩ := h
      have := ih _ _ _ h4
      omega
    · rw [if_neg e] at h
      exact ih _ _ _ h
theorem att_0 {out : Int → Bool} {fr : Int → Int → Int} {n : Int} : ∀ (k : Nat) (c : Int) (sp : Int → Int) (z : Int), (∀ q, c ≤ q → out q = false) → (attC out fr n k c sp z ↔ z = 0) := by
  intro k
  induction k with
  | zero => intro c sp z _; exact Iff.rfl
  | succ k ih =>
    intro c sp z h
    simp only [attC]
    rw [if_neg (by rw [h c (by omega)]; simp)]
    exact ih _ _ _ (fun q hq => h q (by omega))
theorem att_eq {out out' : Int → Bool} {fr fr' : Int → Int → Int} {n : Int} (e : Nat) (ho : ∀ c, 0 ≤ c → c < n → out c = out' c) (h0 : ∀ c, n ≤ c → out c = false) (hf : ∀ g c, 0 ≤ g → g < n → 0 ≤ c → c < n → fr g c = fr' g c) : ∀ (k : Nat) (c : Int) (sp sp' : Int → Int) (z : Int), c + k = n → 0 ≤ c → (∀ g, 0 ≤ g → g < n → sp g = sp' g ∨ (sp g ≤ 0 ∧ sp' g ≤ 0)) → (attC out fr n (k + e) c sp z ↔ attC out' fr' n k c sp' z) := by
  intro k
  induction k with
  | zero =>
    intro c sp sp' z hc _ _
    rw [Nat.zero_add, att_0 e c sp z (fun q hq => h0 q (by omega))]
    exact Iff.rfl
  | succ k ih =>
    intro c sp sp' z hc hc0 hs
    rw [show k + 1 + e = (k + e) + 1 by omega]
    simp only [attC]
    rw [ho c hc0 (by omega)]
    by_cases e1 : out' c = true
    · rw [if_pos e1, if_pos e1]
      constructor
      · intro h
        obtain ⟨g, z', h1, h2, h3, h4, h5⟩ := h
        have hg := hs g h1.1 h1.2
        rw [hf g c h1.1 h1.2 hc0 (by omega)] at h3 h5
        refine ⟨g, z', h1, by omega, h3, (ih (c + 1) _ _ z' (by omega) (by omega) (fun j a b => ?_)).mp h4, h5⟩
        unfold decF
        by_cases ej : j = g
        · rw [if_pos ej, if_pos ej]; omega
        · rw [if_neg ej, if_neg ej]; exact hs j a b
      · intro h
        obtain ⟨g, z', h1, h2, h3, h4, h5⟩ := h
        have hg := hs g h1.1 h1.2
        rw [← hf g c h1.1 h1.2 hc0 (by omega)] at h3 h5
        refine ⟨g, z', h1, by omega, h3, (ih (c + 1) _ _ z' (by omega) (by omega) (fun j a b => ?_)).mpr h4, h5⟩
        unfold decF
        by_cases ej : j = g
        · rw [if_pos ej, if_pos ej]; omega
        · rw [if_neg ej, if_neg ej]; exact hs j a b
    · rw [if_neg e1, if_neg e1]
      exact ih (c + 1) sp sp' z (by omega) (by omega) hs
theorem givL_P {kn : Int → Int} {rec : (Int → Int) → Int} {c : Int} {sp : Int → Int} {Pr : Int → Int → Prop} (hr : ∀ g : Int, 0 < sp g → mnP (Pr g) (rec (decF sp g))) (hp : ∀ g z, Pr g z → 0 ≤ z) : ∀ m : Nat, mnP (fun z => ∃ g z', (0 ≤ g ∧ g < (m : Int)) ∧ 0 < sp g ∧ 0 ≤ farM kn g c ∧ Pr g z' ∧ z = farM kn g c + z') (givL kn rec c sp m) := by
  intro m
  induction m with
  | zero => exact ⟨fun h => absurd rfl h, fun z h => by obtain ⟨g, z', h1, _⟩ := h; omega⟩
  | succ m ih =>
    have hfb := farM_b kn m c
    have keep : (¬ ∃ z', 0 < sp m ∧ 0 ≤ farM kn m c ∧ Pr m z') → mnP (fun z => ∃ g z', (0 ≤ g ∧ g < ((m + 1 : Nat) : Int)) ∧ 0 < sp g ∧ 0 ≤ farM kn g c ∧ Pr g z' ∧ z = farM kn g c + z') (givL kn rec c sp m) := by
      intro hno
      refine ⟨fun h => ?_, fun z h => ?_⟩
      · obtain ⟨g, z', h1, h2⟩ := ih.1 h
        exact ⟨g, z', ⟨h1.1, by omega⟩, h2⟩
      · obtain ⟨g, z', h1, h2, h3, h4, h5⟩ := h
        by_cases eg : g = m
        · subst eg; exact absurd ⟨z', h2, h3, h4⟩ hno
        · exact ih.2 z ⟨g, z', ⟨h1.1, by omega⟩, h2, h3, h4, h5⟩
    simp only [givL]
    by_cases e1 : 0 < sp m
    · simp only [if_pos e1]
      have hR := hr m e1
      by_cases e2 : farM kn m c = -9
      · rw [if_pos e2]
        exact keep (fun h => by obtain ⟨z', _, h3, _⟩ := h; omega)
      · rw [if_neg e2]
        by_cases e3 : rec (decF sp m) = -9
        · rw [if_pos e3]
          exact keep (fun h => by obtain ⟨z', _, _, h4⟩ := h; exact (hR.2 z' h4).1 e3)
        · rw [if_neg e3]
          have hP := hR.1 e3
          have hP0 := hp _ _ hP
          have hgl : givL kn rec c sp m = -9 ∨ 0 ≤ givL kn rec c sp m := by
            by_cases e : givL kn rec c sp m = -9
            · exact Or.inl e
            · obtain ⟨g, z', h1, h2, h3, h4, h5⟩ := ih.1 e
              have := hp _ _ h4
              omega
          by_cases e4 : givL kn rec c sp m = -9 ∨ farM kn m c + rec (decF sp m) < givL kn rec c sp m
          · rw [if_pos e4]
            refine ⟨fun _ => ⟨m, _, ⟨by omega, by omega⟩, e1, by omega, hP, rfl⟩, fun z h => ?_⟩
            obtain ⟨g, z', h1, h2, h3, h4, h5⟩ := h
            by_cases eg : g = m
            · subst eg
              have := hR.2 z' h4
              omega
            · have := ih.2 z ⟨g, z', ⟨h1.1, by omega⟩, h2, h3, h4, h5⟩
              omega
          · rw [if_neg e4]
            refine ⟨fun h => ?_, fun z h => ?_⟩
            · obtain ⟨g, z', h1, h2⟩ := ih.1 h
              exact ⟨g, z', ⟨h1.1, by omega⟩, h2⟩
            · obtain ⟨g, z', h1, h2, h3, h4, h5⟩ := h
              by_cases eg : g = m
              · subst eg
                have := hR.2 z' h4
                omega
              · exact ih.2 z ⟨g, z', ⟨h1.1, by omega⟩, h2, h3, h4, h5⟩
    · simp only [if_neg e1]
      rw [if_pos trivial]
      exact keep (fun h => by obtain ⟨z', h2, _⟩ := h; exact e1 h2)
theorem mnP_iff {Pr Pr' : Int → Prop} {r : Int} (e : ∀ z, Pr z ↔ Pr' z) (h : mnP Pr r) : mnP Pr' r := ⟨fun hr => (e r).mp (h.1 hr), fun z hz => h.2 z ((e z).mpr hz)⟩
def bitB (st : Int) (c : Int) : Bool := decide (iand ((st.toNat / 2 ^ c.toNat : Nat) : Int) 1 = 1)
theorem givN_P {kn : Int → Int} {st n : Int} (hn : n ≤ 6) : ∀ (k : Nat) (c : Int) (sp : Int → Int), c + k = 6 → 0 ≤ c → (∀ g, n ≤ g → sp g ≤ 0) → mnP (attC (bitB st) (farM kn) n k c sp) (givN kn st k c sp) := by
  intro k
  induction k with
  | zero =>
    intro c sp _ _ _
    exact ⟨fun _ => rfl, fun z hz => by simp only [attC] at hz; simp only [givN]; omega⟩
  | succ k ih =>
    intro c sp hc hc0 hs
    simp only [givN]
    by_cases e0 : ((st.toNat / 2 ^ c.toNat : Nat) : Int) = 0
    · rw [if_pos e0]
      have hall : ∀ q, c ≤ q → bitB st q = false := by
        intro q hq
        unfold bitB
        have h1 : st.toNat / 2 ^ c.toNat = 0 := by omega
        have h2 : st.toNat < 2 ^ c.toNat := by
          rcases Nat.div_eq_zero_iff.mp h1 with h | h
          · have := Nat.two_pow_pos c.toNat; omega
          · exact h
        rw [bit_0 h2 (show c.toNat ≤ q.toNat by omega)]
        rfl
      have h0 := fun z => att_0 (fr := farM kn) (n := n) (k + 1) c sp z hall
      exact ⟨fun _ => (h0 0).mpr rfl, fun z hz => by have := (h0 z).mp hz; omega⟩
    · rw [if_neg e0]
      have hb := bit_b (st.toNat / 2 ^ c.toNat)
      by_cases e1 : iand ((st.toNat / 2 ^ c.toNat : Nat) : Int) 1 = 0
      · rw [if_pos e1]
        have ho : ¬ bitB st c = true := by
          unfold bitB
          rw [decide_eq_true_iff]
          omega
        refine mnP_iff (fun z => ?_) (ih (c + 1) sp (by omega) (by omega) hs)
        simp only [attC]
        rw [if_neg ho]
      · rw [if_neg e1]
        have ho : bitB st c = true := by
          unfold bitB
          rw [decide_eq_true_iff]
          omega
        refine mnP_iff (fun z => ?_) (givL_P (kn := kn) (rec := givN kn st k (c + 1)) (c := c) (sp := sp) (Pr := fun g z' => attC (bitB st) (farM kn) n k (c + 1) (decF sp g) z') (fun g hg => ih (c + 1) _ (by omega) (by omega) (fun j hj => ?_)) (fun g z h => att_nn _ _ _ _ h) 6)
        · simp only [attC]
          rw [if_pos ho]
          constructor
          · intro h
            obtain ⟨g, z', h1, h2, h3⟩ := h
            have := fun hg => hs g hg
            exact ⟨g, z', ⟨h1.1, by omega⟩, h2, h3⟩
          · intro h
            obtain ⟨g, z', h1, h2, h3⟩ := h
            exact ⟨g, z', ⟨h1.1, by omega⟩, h2, h3⟩
        · have hgn : g < n := by
            by_cases e : n ≤ g
            · have := hs g e; omega
            · omega
          unfold decF
          rw [if_neg (by omega)]
          exact hs j hj
theorem cnt_last (out : Int → Bool) : ∀ (k : Nat) (c : Int), cntO out (k + 1) c = cntO out k c + (if out (c + k) = true then 1 else 0) := by
  intro k
  induction k with
  | zero =>
    intro c
    simp only [cntO]
    rw [show c + ((0 : Nat) : Int) = c by omega]
    split <;> rfl
  | succ k ih =>
    intro c
    have h1 := ih (c + 1)
    rw [show c + 1 + (k : Int) = c + ((k + 1 : Nat) : Int) by omega] at h1
    have e : cntO out (k + 1 + 1) c = if out c = true then cntO out (k + 1) (c + 1) + 1 else cntO out (k + 1) (c + 1) := rfl
    have e2 : cntO out (k + 1) c = if out c = true then cntO out k (c + 1) + 1 else cntO out k (c + 1) := rfl
    rw [e, e2, h1]
    split <;> split <;> omega
theorem pop_up (n : Nat) (hn : n < 6) (x : Int) (hx : 0 ≤ x ∧ x < 2 ^ n) : popM (x + 2 ^ n) = popM x + 1 := by
  have key : ∀ (n : Fin 6) (x : Fin 64), x.val < 2 ^ n.val → popM ((x.val + 2 ^ n.val : Nat) : Int) = popM (x.val : Int) + 1 := by decide +kernel
  have hp : (2 : Int) ^ n = ((2 ^ n : Nat) : Int) := by rw [Int.natCast_pow]; rfl
  have h64 : 2 ^ n ≤ 2 ^ 5 := Nat.pow_le_pow_right (by omega) (by omega)
  rw [hp] at hx ⊢
  have h := key ⟨n, hn⟩ ⟨x.toNat, by omega⟩ (by show x.toNat < 2 ^ n; omega)
  simp only at h
  rw [Int.natCast_add, Int.toNat_of_nonneg hx.1] at h
  exact h
theorem pop_cnt (out : Int → Bool) : ∀ n : Nat, n ≤ 6 → popM (setN out n) = (cntO out n 0 : Nat) := by
  intro n
  induction n with
  | zero => intro _; show popM 0 = ((0 : Nat) : Int); simp [popM]
  | succ n ih =>
    intro hn
    have h1 := ih (by omega)
    have hb := setN_b out n
    rw [cnt_last]
    simp only [setN]
    rw [show (0 : Int) + (n : Int) = (n : Int) by omega]
    by_cases e : out (n : Int) = true
    · rw [if_pos e, if_pos e, pop_up n (by omega) _ hb, h1]; omega
    · rw [if_neg e, if_neg e, h1]; omega
theorem give_eq {v v' : jS} (h : vEq v v') (ho : okV v) (hv : wvB v) (hn : 0 < v 0 1) {kn kn' : Int → Int} (hk : ∀ j : Int, 0 ≤ j → j < v 0 1 → kn j = kn' j) (hb : ∀ j : Int, 0 ≤ j → j < v 0 1 → (kn j).toNat < 2 ^ (v 0 1).toNat) : giveM v kn = gvR v' (farR (v 0 1).toNat kn') := by
  have hn6 := hv.2.1
  have e1 := vE1 h
  obtain ⟨nn, hnn⟩ : ∃ nn : Nat, v 0 1 = (nn : Int) := ⟨(v 0 1).toNat, by omega⟩
  have hnM : nM v = nn := by unfold nM; omega
  have hnM' : nM v' = nn := by rw [← nM_c h]; exact hnM
  have hst : (starvM v).toNat < 2 ^ nn := by
    have := setN_b (outM v) (nM v)
    unfold starvM
    rw [hnM] at this ⊢
    have hp : (2 : Int) ^ nn = ((2 ^ nn : Nat) : Int) := by rw [Int.natCast_pow]; rfl
    rw [hp] at this
    omega
  have hA := givN_P (kn := kn) (st := starvM v) (n := v 0 1) hn6.2 6 0 (spareF v) rfl (by omega) (fun g hg => by unfold spareF; rw [if_neg (by omega)]; omega)
  have hB := mnN_P (f := fun w : Nat => refW (v' 0 1) (outM v') (farR (v 0 1).toNat kn') (nM v') 0 w (fun j => eatsM v' j - 1)) (fun w => by
    have := refW_b (n := v' 0 1) (out := outM v') (fr := farR (v 0 1).toNat kn') (fun g c => (farR_b _ _ _ _).2.1) (nM v') 0 w (fun j => eatsM v' j - 1)
    omega) (nM v' ^ (popM (starvM v')).toNat)
  refine mnP_one hA hB (fun z => ?_)
  have hk' : ∀ j : Int, 0 ≤ j → j < nn → kn j = kn' j := fun j a b => hk j a (by omega)
  have hb' : ∀ j : Int, 0 ≤ j → j < nn → (kn j).toNat < 2 ^ nn := fun j a b => by
    have := hb j a (by omega)
    rw [hnn, Int.toNat_natCast] at this
    exact this
  have hcnt : (popM (starvM v')).toNat = cntO (outM v') nn 0 := by
    unfold starvM
    rw [hnM', pop_cnt (outM v') nn (by omega : nn ≤ 6), Int.toNat_natCast]
  rw [hcnt, hnM', ← e1, hnn, Int.toNat_natCast]
  rw [refW_att (fr := farR nn kn') (show 0 < nn by omega) (fun g c => (farR_b _ _ _ _).2.1)]
  have hes : ∀ g : Int, 0 ≤ g → g < nn → eatsM v g = eatsM v' g := fun g a b => eats_c h ho ⟨a, by omega⟩
  have key := att_eq (out := bitB (starvM v)) (out' := outM v') (fr := farM kn) (fr' := farR nn kn') (n := (nn : Int)) (6 - nn) (fun c a b => ?_) (fun c a => ?_) (fun g c a b _ _ => far_eq (by omega) hk' hb' ⟨a, b⟩) nn 0 (spareF v) (fun j => eatsM v' j - 1) z (by omega) (by omega) (fun g a b => ?_)
  · rw [show nn + (6 - nn) = 6 by omega] at key
    exact key
  · rw [← out_c h ho ⟨a, by omega⟩]
    obtain ⟨c0, rfl⟩ : ∃ c0 : Nat, c = (c0 : Int) := ⟨c.toNat, by omega⟩
    unfold bitB starvM
    rw [hnM, Int.toNat_natCast, setN_bit (outM v) (by omega : c0 < nn)]
    cases outM v (c0 : Int) <;> rfl
  · unfold bitB
    rw [bit_0 hst (by omega)]
    rfl
  · have := hes g a b
    unfold spareF
    rw [if_pos (by omega)]
    split <;> omega
