/-! ===== two views that agree where it counts ===== -/
def vEq (v v' : jS) : Prop := (∀ i, 0 ≤ i → i ≤ 3 → v 0 i = v' 0 i) ∧ (∀ j, 0 ≤ j → j < v 0 0 → v 1 j = v' 1 j) ∧ ∀ r : Nat, 2 ≤ r → r ≤ 6 → ∀ j, 0 ≤ j → j < v 0 1 → v r j = v' r j
def okV (v : jS) : Prop := ∀ j, 0 ≤ j → j < v 0 1 → 0 ≤ v 5 j ∧ v 5 j < v 0 0
section
variable {v v' : jS} {c d g x m t : Int}
theorem vE0 (h : vEq v v') : v 0 0 = v' 0 0 := h.1 0 (by omega) (by omega)
theorem vE1 (h : vEq v v') : v 0 1 = v' 0 1 := h.1 1 (by omega) (by omega)
theorem vE2 (h : vEq v v') : v 0 2 = v' 0 2 := h.1 2 (by omega) (by omega)
theorem vE3 (h : vEq v v') : v 0 3 = v' 0 3 := h.1 3 (by omega) (by omega)
theorem nM_c (h : vEq v v') : nM v = nM v' := by unfold nM; rw [vE1 h]
theorem gM_c (h : vEq v v') : gM v = gM v' := by unfold gM; rw [vE0 h]
theorem nM_lt {n : Int} (hc : 0 ≤ c) (h : c < (nM v : Nat)) : c < v 0 1 := by unfold nM at h; omega
theorem gM_lt (hc : 0 ≤ c) (h : c < (gM v : Nat)) : c < v 0 0 := by unfold gM at h; omega
theorem row_c (h : vEq v v') (hc : 0 ≤ c ∧ c < v 0 1) (r : Nat) (h2 : 2 ≤ r := by omega) (h6 : r ≤ 6 := by omega) : v r c = v' r c := h.2.2 r h2 h6 c hc.1 hc.2
theorem look_c (h : vEq v v') (hc : 0 ≤ c ∧ c < v 0 1) : lookM v c = lookM v' c := by
  unfold lookM
  rw [row_c h hc 2, row_c h hc 4, vE3 h]
theorem rank_c (h : vEq v v') (hc : 0 ≤ c ∧ c < v 0 1) : rankM v c = rankM v' c := by
  unfold rankM
  rw [look_c h hc, row_c h hc 3, row_c h hc 6, vE2 h]
theorem place_c (h : vEq v v') (hc : 0 ≤ c ∧ c < v 0 1) : placeM v c = placeM v' c := by
  unfold placeM
  rw [← nM_c h]
  refine sumN_congr _ (fun d h1 h2 => ?_)
  have hd : 0 ≤ d ∧ d < v 0 1 := ⟨h1, nM_lt (n := 0) h1 h2⟩
  unfold placeF
  rw [row_c h hc 5, row_c h hd 5, rank_c h hc, rank_c h hd]
theorem eats_c (h : vEq v v') (ho : okV v) (hc : 0 ≤ c ∧ c < v 0 1) : eatsM v c = eatsM v' c := by
  unfold eatsM
  have h5 := ho c hc.1 hc.2
  have e : sumN (takeF v c) (nM v) = sumN (takeF v' c) (nM v') := by
    rw [← nM_c h]
    refine sumN_congr _ (fun d h1 h2 => ?_)
    have hd : 0 ≤ d ∧ d < v 0 1 := ⟨h1, nM_lt (n := 0) h1 h2⟩
    unfold takeF
    rw [row_c h hc 5, row_c h hd 5, rank_c h hc, rank_c h hd, row_c h hd 3]
  rw [e, row_c h hc 3, ← row_c h hc 5, h.2.1 (v 5 c) h5.1 h5.2]
theorem out_c (h : vEq v v') (ho : okV v) (hc : 0 ≤ c ∧ c < v 0 1) : outM v c = outM v' c := by
  unfold outM
  rw [eats_c h ho hc, row_c h hc 3]
theorem starv_c (h : vEq v v') (ho : okV v) : starvM v = starvM v' := by
  unfold starvM
  rw [← nM_c h]
  exact setN_congr _ (fun d h1 h2 => out_c h ho ⟨h1, nM_lt (n := 0) h1 h2⟩)
theorem at_c (h : vEq v v') : atM v g = atM v' g := by
  unfold atM
  rw [← nM_c h]
  exact setN_congr _ (fun d h1 h2 => by rw [row_c h ⟨h1, nM_lt (n := 0) h1 h2⟩ 5])
theorem crowd_c (h : vEq v v') (ho : okV v) (hc : 0 ≤ c ∧ c < v 0 1) : crowdM v c = crowdM v' c := by
  unfold crowdM
  rw [eats_c h ho hc, ← nM_c h]
  rw [setN_congr (g := fun d => outM v' d && decide (v' 5 d = v' 5 c) && decide (v' 3 c < v' 3 d)) (nM v) (fun d h1 h2 => ?_)]
  have hd : 0 ≤ d ∧ d < v 0 1 := ⟨h1, nM_lt (n := 0) h1 h2⟩
  rw [out_c h ho hd, row_c h hd 5, row_c h hc 5, row_c h hd 3, row_c h hc 3]
theorem there_c (h : vEq v v') (ho : okV v) : setN (fun c => outM v c && decide (v 5 c = g)) (nM v) = setN (fun c => outM v' c && decide (v' 5 c = g)) (nM v') := by
  rw [← nM_c h]
  exact setN_congr _ (fun d h1 h2 => by rw [out_c h ho ⟨h1, nM_lt (n := 0) h1 h2⟩, row_c h ⟨h1, nM_lt (n := 0) h1 h2⟩ 5])
theorem left_c (h : vEq v v') (hg : 0 ≤ g ∧ g < v 0 0) : leftM v g = leftM v' g := by
  have e : sumN (leftF v g) (nM v) = sumN (leftF v' g) (nM v') := by
    rw [← nM_c h]
    refine sumN_congr _ (fun d h1 h2 => ?_)
    have hd : 0 ≤ d ∧ d < v 0 1 := ⟨h1, nM_lt (n := 0) h1 h2⟩
    unfold leftF
    rw [row_c h hd 5, row_c h hd 3]
  unfold leftM
  rw [e, h.2.1 g hg.1 hg.2]
theorem lefts_c (h : vEq v v') : sumN (leftM v) (gM v) = sumN (leftM v') (gM v') := by
  rw [← gM_c h]
  exact sumN_congr _ (fun d h1 h2 => left_c h ⟨h1, gM_lt h1 h2⟩)
theorem looks_c (h : vEq v v') : sumN (lookM v) (nM v) = sumN (lookM v') (nM v') := by
  rw [← nM_c h]
  exact sumN_congr _ (fun d h1 h2 => look_c h ⟨h1, nM_lt (n := 0) h1 h2⟩)
theorem loaves_c (h : vEq v v') : sumN (v 1) (gM v) = sumN (v' 1) (gM v') := by
  rw [← gM_c h]
  exact sumN_congr _ (fun d h1 h2 => h.2.1 d h1 (gM_lt h1 h2))
theorem eaters_c (h : vEq v v') (ho : okV v) : sumN (eaterF v) (nM v) = sumN (eaterF v') (nM v') := by
  rw [← nM_c h]
  refine sumN_congr _ (fun d h1 h2 => ?_)
  unfold eaterF
  rw [eats_c h ho ⟨h1, nM_lt (n := 0) h1 h2⟩]
theorem held_c (h : vEq v v') : sumN (heldF v t) (nM v) = sumN (heldF v' t) (nM v') := by
  rw [← nM_c h]
  refine sumN_congr _ (fun d h1 h2 => ?_)
  have hd : 0 ≤ d ∧ d < v 0 1 := ⟨h1, nM_lt (n := 0) h1 h2⟩
  unfold heldF
  rw [look_c h hd, row_c h hd 3]
theorem unheld_c (h : vEq v v') : sumN (unheldF v t) (nM v) = sumN (unheldF v' t) (nM v') := by
  rw [← nM_c h]
  refine sumN_congr _ (fun d h1 h2 => ?_)
  have hd : 0 ≤ d ∧ d < v 0 1 := ⟨h1, nM_lt (n := 0) h1 h2⟩
  unfold unheldF
  rw [look_c h hd, row_c h hd 3]
theorem mis_c (h : vEq v v') : misM v = misM v' := by
  funext t
  unfold misM
  rw [held_c h, unheld_c h]
theorem vEq_up (h : vEq v v') {r : Nat} {j : Int} (x : Int) (hr : (r = 0 ∧ (j = 2 ∨ j = 3)) ∨ (1 ≤ r ∧ r ≤ 6)) : vEq (jup v r j x) (jup v' r j x) := by
  have key : ∀ (k : Nat) (i : Int), v k i = v' k i → jup v r j x k i = jup v' r j x k i := by
    intro k i e
    unfold jup
    rw [e]
  have e0 : jup v r j x 0 0 = v 0 0 := by
    by_cases e : r = 0
    · subst e; exact jup_ne2 (by omega)
    · rw [jup_ne (by omega)]
  have e1 : jup v r j x 0 1 = v 0 1 := by
    by_cases e : r = 0
    · subst e; exact jup_ne2 (by omega)
    · rw [jup_ne (by omega)]
  refine ⟨fun i a b => key 0 i (h.1 i a b), fun i a b => key 1 i (h.2.1 i a (by omega)), fun k a b i c d => key k i (h.2.2 k a b i c (by omega))⟩
theorem okV_up (h : okV v) {r : Nat} {j : Int} (x : Int) (hr : (r = 0 ∧ (j = 2 ∨ j = 3)) ∨ (1 ≤ r ∧ r ≤ 6)) (h5 : r = 5 → 0 ≤ x ∧ x < v 0 0) : okV (jup v r j x) := by
  have e0 : jup v r j x 0 0 = v 0 0 := by
    by_cases e : r = 0
    · subst e; exact jup_ne2 (by omega)
    · rw [jup_ne (by omega)]
  have e1 : jup v r j x 0 1 = v 0 1 := by
    by_cases e : r = 0
    · subst e; exact jup_ne2 (by omega)
    · rw [jup_ne (by omega)]
  intro i a b
  rw [e0]
  rw [e1] at b
  by_cases e : r = 5
  · subst e
    by_cases e2 : i = j
    · rw [e2, jup_at]; exact h5 rfl
    · rw [jup_ne2 e2]; exact h i a b
  · rw [jup_ne (by omega)]; exact h i a b
theorem man_c (h : vEq v v') (ho : okV v) : manC v m = manC v' m := by
  unfold manC
  rw [starv_c (vEq_up h m (Or.inl ⟨rfl, Or.inl rfl⟩)) (okV_up ho m (Or.inl ⟨rfl, Or.inl rfl⟩) (by omega))]
theorem without_c (h : vEq v v') (ho : okV v) : aWithout (v 0 1) v x = aWithout (v' 0 1) v' x := by
  have e : manC v = manC v' := by funext m; exact man_c h ho
  unfold aWithout
  rw [e, vE1 h]
theorem findUp_c {p q : Int → Bool} : ∀ (k : Nat) (i : Int), (∀ t, i ≤ t → t < i + k → p t = q t) → findUp p k i = findUp q k i := by
  intro k
  induction k with
  | zero => intro i _; rfl
  | succ k ih =>
    intro i hh
    simp only [findUp]
    rw [hh i (by omega) (by omega), ih (i + 1) (fun t a b => hh t (by omega) (by omega))]
theorem gain_c (h : vEq v v') (ho : okV v) (hc : 0 ≤ c ∧ c < v 0 1) : gainM v c = gainM v' c := by
  unfold gainM
  rw [row_c h hc 4]
  refine findUp_c _ _ (fun t _ _ => ?_)
  rw [eats_c h ho hc, eats_c (c := c) (vEq_up h t (Or.inr (by omega))) (okV_up ho t (Or.inr (by omega)) (by omega)) (by rw [jup_ne (by omega)]; exact hc)]
theorem needs_c (h : vEq v v') (ho : okV v) (hc : 0 ≤ c ∧ c < v 0 1) : needsM v c = needsM v' c := by
  unfold needsM
  refine findUp_c _ _ (fun t _ _ => ?_)
  rw [eats_c (c := c) (vEq_up h t (Or.inl ⟨rfl, Or.inr rfl⟩)) (okV_up ho t (Or.inl ⟨rfl, Or.inr rfl⟩) (by omega)) (by rw [jup_ne2 (by omega)]; exact hc)]
theorem ways_c (h : vEq v v') (ho : okV v) (hc : 0 ≤ c ∧ c < v 0 1) : wayF v c = wayF v' c := by
  funext x
  unfold wayF setMC
  rw [eats_c (c := c) (vEq_up (vEq_up h _ (Or.inl ⟨rfl, Or.inl rfl⟩)) _ (Or.inl ⟨rfl, Or.inr rfl⟩)) (okV_up (okV_up ho _ (Or.inl ⟨rfl, Or.inl rfl⟩) (by omega)) _ (Or.inl ⟨rfl, Or.inr rfl⟩) (by omega)) (by rw [jup_ne2 (by omega), jup_ne2 (by omega)]; exact hc)]
theorem odds_c (h : vEq v v') (ho : okV v) (hc : 0 ≤ c ∧ c < v 0 1) : oddsM v c x = oddsM v' c x := by
  unfold oddsM
  rw [ways_c h ho hc]
theorem so_c {co co' ea ea' : Int → Int} (h : vEq v v') (ho : okV v) : ∀ n : Nat, (∀ j : Int, 0 ≤ j → j < n → co j = co' j ∧ ea j = ea' j ∧ 0 ≤ co j ∧ co j < v 0 1) → soN v co ea n = soN v' co' ea' n := by
  intro n
  induction n with
  | zero => intro _; rfl
  | succ n ih =>
    intro hh
    simp only [soN]
    have h1 := hh n (by omega) (by omega)
    rw [ih (fun j a b => hh j a (by omega)), eats_c h ho h1.2.2, h1.1, h1.2.1]
theorem pass_c (h : vEq v v') (ho : okV v) (hc : 0 ≤ c ∧ c < v 0 1) : passF v c = passF v' c := by
  unfold passF
  rw [out_c h ho hc, row_c h hc 3, row_c h hc 4]
theorem passV_c (h : vEq v v') (ho : okV v) : vEq (passV v) (passV v') ∧ okV (passV v) := by
  have e0 : ∀ (u : jS) (k : Nat) (i : Int), k ≠ 4 → passV u k i = u k i := fun u k i hk => by unfold passV jset; rw [if_neg hk]
  have e4 : ∀ (u : jS) (i : Int), passV u 4 i = passN u (nM u) i := fun u i => by unfold passV jset; rw [if_pos rfl]
  refine ⟨⟨fun i a b => by rw [e0 _ _ _ (by omega), e0 _ _ _ (by omega)]; exact h.1 i a b, fun i a b => by rw [e0 _ _ _ (by omega), e0 _ _ _ (by omega)]; rw [e0 _ _ _ (by omega)] at b; exact h.2.1 i a b, fun r a b i c d => ?_⟩, fun i a b => by rw [e0 _ _ _ (by omega), e0 _ _ _ (by omega)]; rw [e0 _ _ _ (by omega)] at b; exact ho i a b⟩
  rw [e0 _ _ _ (by omega)] at d
  by_cases e : r = 4
  · subst e
    have hn : 0 ≤ i ∧ i < ((nM v : Nat) : Int) := by unfold nM; omega
    rw [e4, e4]
    unfold passN
    rw [if_pos hn, if_pos (by rw [← nM_c h]; exact hn)]
    exact pass_c h ho ⟨c, d⟩
  · rw [e0 _ _ _ e, e0 _ _ _ e]; exact h.2.2 r a b i c d
theorem it_c (h : vEq v v') (ho : okV v) : ∀ t : Nat, vEq (itV v t) (itV v' t) ∧ okV (itV v t) := by
  intro t
  induction t with
  | zero => exact ⟨h, ho⟩
  | succ t ih => exact passV_c ih.1 ih.2
theorem digN_c {f f' : Int → Int} : ∀ n : Nat, (∀ j : Int, 0 ≤ j → j < n → f j = f' j) → digN f n = digN f' n := by
  intro n
  induction n with
  | zero => intro _; rfl
  | succ n ih =>
    intro hh
    simp only [digN]
    rw [ih (fun j a b => hh j a (by omega)), hh n (by omega) (by omega)]
theorem num_c (h : vEq v v') (ho : okV v) : numV v = numV v' := by
  funext t
  unfold numV
  have hi := it_c h ho t
  have e1 : itV v t 0 1 = v 0 1 := by
    have := itV_n v t
    clear this
    induction t with
    | zero => rfl
    | succ t ih => show passV (itV v t) 0 1 = _; unfold passV jset; rw [if_neg (by omega)]; exact ih (it_c h ho t)
  rw [← nM_c h]
  refine digN_c _ (fun j a b => hi.1.2.2 4 (by omega) (by omega) j a ?_)
  rw [e1]
  exact nM_lt (n := 0) a b
theorem cnt3_c (h : vEq v v') (ho : okV v) (a b c : Int) : cnt3 v a b c = cnt3 v' a b c := by
  unfold cnt3 lo3
  rw [starv_c (vEq_up (vEq_up (vEq_up h a (Or.inr (by omega))) b (Or.inr (by omega))) c (Or.inr (by omega))) (okV_up (okV_up (okV_up ho a (Or.inr (by omega)) (by omega)) b (Or.inr (by omega)) (by omega)) c (Or.inr (by omega)) (by omega))]
theorem parW_c (h : vEq v v') (ho : okV v) (A : pAcc) (a b c : Int) : parW v A a b c = parW v' A a b c := by
  unfold parW
  rw [cnt3_c h ho]
theorem parB_c (h : vEq v v') (ho : okV v) (all a : Int) (A : pAcc) : ∀ n, parB v all a A n = parB v' all a A n := by
  intro n
  induction n with
  | zero => rfl
  | succ n ih =>
    simp only [parB]
    rw [ih, parW_c h ho, vE0 h]
theorem parA_c (h : vEq v v') (ho : okV v) (all : Int) : ∀ n, parA v all n = parA v' all n := by
  intro n
  induction n with
  | zero => rfl
  | succ n ih =>
    simp only [parA]
    rw [ih, parB_c h ho]
theorem par_c (h : vEq v v') (ho : okV v) : parM v = parM v' := by
  unfold parM
  rw [loaves_c h, parA_c h ho]
theorem ofComer_c (h : vEq v v') (ho : okV v) : aOfComer (v 0 1) v c x = aOfComer (v' 0 1) v' c x := by
  unfold aOfComer
  rw [← vE1 h]
  by_cases hc : 0 ≤ c ∧ c < v 0 1
  · rw [row_c h hc 2, row_c h hc 3, row_c h hc 4, row_c h hc 5, row_c h hc 6, look_c h hc, eats_c h ho hc, out_c h ho hc, crowd_c h ho hc, place_c h hc]
  · rw [if_pos hc, if_pos hc]
theorem ofGate_c (h : vEq v v') (ho : okV v) : aOfGate (v 0 0) v g x = aOfGate (v' 0 0) v' g x := by
  unfold aOfGate
  rw [← vE0 h]
  by_cases hg : 0 ≤ g ∧ g < v 0 0
  · rw [h.2.1 g hg.1 hg.2, at_c h, left_c h hg, there_c h ho]
  · rw [if_pos hg, if_pos hg]
theorem ask_c (h : vEq v v') (ho : okV v) : askM v x = askM v' x := by
  unfold askM
  rw [eaters_c h ho, starv_c h ho, lefts_c h, looks_c h, ← vE1 h]
  by_cases hc : 0 ≤ x - 10 ∧ x - 10 < v 0 1
  · rw [eats_c h ho hc]
  · rw [if_neg hc, if_neg hc]
theorem told_c {f f' : Int → Int} {i i' : Int} : ∀ N : Nat, (∀ q : Int, 0 ≤ q → q < 2 * N → f (i + q) = f' (i' + q)) → toldN f i N = toldN f' i' N := by
  intro N
  induction N with
  | zero => intro _; rfl
  | succ N ih =>
    intro hh
    simp only [toldN]
    rw [ih (fun q a b => hh q a (by omega))]
    unfold pairF
    have h1 := hh (2 * N) (by omega) (by omega)
    have h2 := hh (2 * N + 1) (by omega) (by omega)
    rw [show i + 2 * (N : Int) + 1 = i + (2 * N + 1) by omega, show i' + 2 * (N : Int) + 1 = i' + (2 * N + 1) by omega, h1, h2]
theorem actOK_c (h : vEq v v') (a : Int) : actOK v a x = actOK v' a x := by
  unfold actOK
  rw [vE0 h, vE1 h]
theorem day_c {f f' : Int → Int} {i i' : Int} (h : vEq v v') (ho : okV v) : ∀ N : Nat, (∀ q : Int, 0 ≤ q → q < 2 * N → f (i + q) = f' (i' + q)) → toldN f i N = true → (dayN f i v N).1 = (dayN f' i' v' N).1 ∧ vEq (dayN f i v N).2 (dayN f' i' v' N).2 ∧ okV (dayN f i v N).2 := by
  intro N
  induction N with
  | zero => intro _ _; exact ⟨rfl, h, ho⟩
  | succ N ih =>
    intro hh ht
    have h1 := hh (2 * N) (by omega) (by omega)
    have h2 := hh (2 * N + 1) (by omega) (by omega)
    have htN : toldN f i N = true := by simp only [toldN, Bool.and_eq_true] at ht; exact ht.1
    have hp := told_all (N + 1) ht N (by omega)
    unfold pairF at hp
    rw [decide_eq_true_iff] at hp
    have ha := mostM_b hp
    obtain ⟨i1, i2, i3⟩ := ih (fun q a b => hh q a (by omega)) htN
    simp only [dayN]
    rw [show i + 2 * (N : Int) + 1 = i + (2 * N + 1) by omega] at hp ha ⊢
    rw [show i' + 2 * (N : Int) + 1 = i' + (2 * N + 1) by omega, ← h1, ← h2, ← i1]
    generalize f (i + 2 * N) = x0 at *
    generalize f (i + (2 * N + 1)) = a0 at *
    by_cases e : (dayN f i v N).1 = -9
    · have ne : ¬ ¬ (dayN f i v N).1 = -9 := fun q => q e
      rw [if_neg ne, if_neg ne, ← actOK_c i2]
      by_cases e2 : actOK (dayN f i v N).2 a0 x0 = true
      · rw [if_pos e2, if_pos e2]
        have hr : (actI a0 = 0 ∧ (actJ a0 = 2 ∨ actJ a0 = 3)) ∨ (1 ≤ actI a0 ∧ actI a0 ≤ 6) := by
          unfold actI actJ
          by_cases q1 : a0 < 6
          · rw [if_pos q1]; omega
          · rw [if_neg q1, if_neg q1]
            by_cases q2 : 11 ≤ a0
            · rw [if_pos q2]; omega
            · rw [if_neg q2, if_neg q2]
              by_cases q3 : 8 ≤ a0
              · rw [if_pos q3]; omega
              · rw [if_neg q3, if_neg q3]
                by_cases q4 : a0 = 6
                · rw [if_pos q4]; omega
                · rw [if_neg q4]; omega
        refine ⟨rfl, vEq_up i2 x0 hr, okV_up i3 x0 hr (fun h5 => ?_)⟩
        unfold actI at h5
        unfold actOK at e2
        by_cases q1 : a0 < 6
        · rw [if_pos q1] at h5; omega
        · rw [if_neg q1] at h5 e2
          by_cases q2 : 11 ≤ a0
          · rw [if_pos q2, decide_eq_true_iff] at e2; omega
          · rw [if_neg q2] at h5
            by_cases q3 : 8 ≤ a0
            · rw [if_pos q3] at h5; omega
            · rw [if_neg q3] at h5; omega
      · rw [if_neg e2, if_neg e2]
        exact ⟨rfl, i2, i3⟩
    · rw [if_pos e, if_pos e]
      exact ⟨i1, i2, i3⟩
theorem pE_c {f f' : Int → Int} {i i' : Int} (v0 : jS) : ∀ p : Nat, (∀ q : Int, 0 ≤ q → q < p → f (i + q) = f' (i' + q)) → pE f i v0 p = pE f' i' v0 p := by
  intro p
  induction p with
  | zero => intro _; rfl
  | succ p ih =>
    intro hh
    simp only [pE]
    rw [ih (fun q a b => hh q a (by omega)), hh p (by omega) (by omega)]
theorem readR_c {f f' : Int → Int} {i i' : Int} (v0 : jS) (p : Nat) (hh : ∀ q : Int, 0 ≤ q → q < p → f (i + q) = f' (i' + q)) : readR f i v0 p = readR f' i' v0 p := by
  unfold readR
  rw [pE_c v0 p hh]
end
