/-! ===== locals: by their places ===== -/
def lg : List (Option Value) → Nat → Option Value
  | [], _ => none
  | a :: _, 0 => a
  | _ :: l, n + 1 => lg l n
def lkeep : Nat → Option Value → Option Value
  | 0, some (.long _) => none
  | 0, some (.double _) => none
  | _, a => a
def lset : List (Option Value) → Nat → Value → List (Option Value)
  | [], _, _ => []
  | _ :: l, 0, v => some v :: l
  | a :: l, n + 1, v => lkeep n a :: lset l n v
def lclr : List (Option Value) → Nat → List (Option Value)
  | [], _ => []
  | _ :: l, 0 => none :: l
  | a :: l, n + 1 => a :: lclr l n
def lpad : Nat → List Value → List (Option Value)
  | n, [] => List.replicate n none
  | n, .long x :: l => some (.long x) :: none :: lpad (n - 2) l
  | n, .double x :: l => some (.double x) :: none :: lpad (n - 2) l
  | n, v :: l => some v :: lpad (n - 1) l
theorem lg_lt : ∀ {L : List (Option Value)} {i : Nat} {v : Value}, lg L i = some v → i < L.length
  | [], _, _, h => by simp [lg] at h
  | _ :: _, 0, _, _ => by simp
  | _ :: l, n + 1, v, h => by
    have := lg_lt (L := l) (i := n) (v := v) h
    simp; omega
theorem lkeep_some : ∀ {n : Nat} {a : Option Value} {x : Value}, lkeep n a = some x → a = some x ∧ ¬ (n = 0 ∧ x.category = 2) := by
  intro n a x h
  cases n with
  | zero =>
    cases a with
    | none => simp [lkeep] at h
    | some y => cases y <;> simp [lkeep] at h <;> subst h <;> simp [Value.category]
  | succ n =>
    cases a with
    | none => simp [lkeep] at h
    | some y => simp [lkeep] at h; subst h; simp
theorem lg_lset : ∀ {L : List (Option Value)} {i j : Nat} {v x : Value}, lg (lset L i v) j = some x → (j = i ∧ x = v) ∨ (j ≠ i ∧ lg L j = some x ∧ ¬ (j + 1 = i ∧ x.category = 2))
  | [], _, _, _, _, h => by simp [lset, lg] at h
  | _ :: l, 0, 0, v, x, h => by simp [lset, lg] at h; exact Or.inl ⟨rfl, h.symm⟩
  | _ :: l, 0, j + 1, v, x, h => by
    refine Or.inr ⟨by omega, h, by omega⟩
  | a :: l, i + 1, 0, v, x, h => by
    obtain ⟨h1, h2⟩ := lkeep_some (n := i) (a := a) (x := x) h
    exact Or.inr ⟨by omega, h1, fun q => h2 ⟨by omega, q.2⟩⟩
  | a :: l, i + 1, j + 1, v, x, h => by
    rcases lg_lset (L := l) (i := i) (j := j) (v := v) (x := x) h with ⟨h1, h2⟩ | ⟨h1, h2, h3⟩
    · exact Or.inl ⟨by omega, h2⟩
    · exact Or.inr ⟨by omega, h2, fun q => h3 ⟨by omega, q.2⟩⟩
theorem lg_lclr : ∀ {L : List (Option Value)} {i j : Nat} {x : Value}, lg (lclr L i) j = some x → j ≠ i ∧ lg L j = some x
  | [], _, _, _, h => by simp [lclr, lg] at h
  | _ :: l, 0, 0, x, h => by simp [lclr, lg] at h
  | _ :: l, 0, j + 1, x, h => ⟨by omega, h⟩
  | a :: l, i + 1, 0, x, h => ⟨by omega, h⟩
  | a :: l, i + 1, j + 1, x, h => by
    obtain ⟨h1, h2⟩ := lg_lclr (L := l) (i := i) (j := j) (x := x) h
    exact ⟨by omega, h2⟩
theorem lg_rep {n j : Nat} {x : Value} : ¬ lg (List.replicate n none) j = some x := by
  induction n generalizing j with
  | zero => simp [lg]
  | succ n ih =>
    cases j with
    | zero => simp [List.replicate, lg]
    | succ j => simpa [List.replicate, lg] using ih
theorem lg_lpad : ∀ (vs : List Value) (n b j : Nat) (x : Value), lg (lpad n vs) j = some x → (b + j, x) ∈ lv_args b vs
  | [], n, b, j, x, h => absurd h lg_rep
  | v :: vs, n, b, j, x, h => by
    cases v with
    | long y =>
      match j, h with
      | 0, h => simp [lpad, lg] at h; subst h; simp [lv_args]
      | 1, h => simp [lpad, lg] at h
      | j + 2, h =>
        have := lg_lpad vs (n - 2) (b + 2) j x h
        rw [show b + (j + 2) = b + 2 + j by omega]
        simp [lv_args, Value.category]; exact Or.inr this
    | double y =>
      match j, h with
      | 0, h => simp [lpad, lg] at h; subst h; simp [lv_args]
      | 1, h => simp [lpad, lg] at h
      | j + 2, h =>
        have := lg_lpad vs (n - 2) (b + 2) j x h
        rw [show b + (j + 2) = b + 2 + j by omega]
        simp [lv_args, Value.category]; exact Or.inr this
    | _ =>
      match j, h with
      | 0, h => simp [lpad, lg] at h; subst h; simp [lv_args]
      | j + 1, h =>
        have := lg_lpad vs (n - 1) (b + 1) j x h
        rw [show b + (j + 1) = b + 1 + j by omega]
        simp [lv_args, Value.category]; exact Or.inr this
def jH (ls : Array Slot) (nL : Nat) (L : List (Option Value)) : Prop := ls.size = nL ∧ lv_wf ls ∧ ∀ (i : Nat) (v : Value), lg L i = some v → ls[i]? = some (.val v)
def toA (L : List (Option Value)) : List (Nat × Value) := (List.range L.length).filterMap (fun i => (lg L i).map (fun v => (i, v)))
theorem toA_mem {L : List (Option Value)} {i : Nat} {v : Value} (h : lg L i = some v) : (i, v) ∈ toA L :=
  List.mem_filterMap.mpr ⟨i, List.mem_range.mpr (lg_lt h), by rw [h]; rfl⟩
theorem toA_has {ls : Array Slot} {nL : Nat} {L : List (Option Value)} (h : jH ls nL L) : lv_has ls nL (toA L) := by
  refine ⟨h.1, h.2.1, fun q hq => ?_⟩
  obtain ⟨i, -, hi⟩ := List.mem_filterMap.mp hq
  cases hg : lg L i with
  | none => rw [hg] at hi; cases hi
  | some v => rw [hg] at hi; cases hi; exact h.2.2 i v hg
theorem jH_set1 {ls : Array Slot} {nL i : Nat} {L : List (Option Value)} {v : Value} (h : lv_has ls nL ((i, v) :: (toA L).filter (fun q => !(q.1 == i) && !(q.1 + 1 == i && q.2.category == 2)))) : jH ls nL (lset L i v) := by
  refine ⟨h.1, h.2.1, fun j x hj => ?_⟩
  rcases lg_lset hj with ⟨rfl, rfl⟩ | ⟨h1, h2, h3⟩
  · exact h.2.2 _ List.mem_cons_self
  · refine h.2.2 (j, x) (List.mem_cons_of_mem _ (List.mem_filter.mpr ⟨toA_mem h2, ?_⟩))
    simp only [Bool.and_eq_true, Bool.not_eq_true', beq_eq_false_iff_ne, ne_eq, Bool.and_eq_false_imp, beq_iff_eq]
    exact ⟨h1, fun q => by intro z; exact h3 ⟨q, z⟩⟩
theorem jH_set2 {ls : Array Slot} {nL i : Nat} {L : List (Option Value)} {v : Value} (h : lv_has ls nL ((i, v) :: (toA L).filter (fun q => !(q.1 == i) && (!(q.1 == i + 1) && !(q.1 + 1 == i && q.2.category == 2))))) : jH ls nL (lclr (lset L i v) (i + 1)) := by
  refine ⟨h.1, h.2.1, fun j x hj => ?_⟩
  obtain ⟨h0, hj⟩ := lg_lclr hj
  rcases lg_lset hj with ⟨rfl, rfl⟩ | ⟨h1, h2, h3⟩
  · exact h.2.2 _ List.mem_cons_self
  · refine h.2.2 (j, x) (List.mem_cons_of_mem _ (List.mem_filter.mpr ⟨toA_mem h2, ?_⟩))
    simp only [Bool.and_eq_true, Bool.not_eq_true', beq_eq_false_iff_ne, ne_eq, Bool.and_eq_false_imp, beq_iff_eq]
    exact ⟨h1, h0, fun q => by intro z; exact h3 ⟨q, z⟩⟩
theorem jH_entry {av : List Value} {n : Nat} (h : (lg_sl av).length ≤ n) : jH ((lg_sl av ++ List.replicate (n - (lg_sl av).length) Slot.unset).toArray) n (lpad n av) := by
  have hl := lv_entry av (n := n) h
  refine ⟨hl.1, hl.2.1, fun j x hj => ?_⟩
  have := lg_lpad av n 0 j x hj
  rw [Nat.zero_add] at this
  exact hl.2.2 _ this
/-! ===== the world: 65 cells, 0 to 35 the class's, 36 to 64 the reference's ===== -/
abbrev jS : Type := Nat → Int → Int
abbrev jP : Type := (Nat → ClassId) × (Nat → Nat → Nat) × ClassId × ClassId × (Nat → Nat)
abbrev jad (P : jP) : Nat → Nat := P.2.2.2.2
abbrev jD (P : jP) : va_G := (P.1, P.2.1)
abbrev jty (P : jP) : List (ClassId × FieldType) := [(P.2.2.1, .int), (P.2.2.2.1, .object "LoafGates$Sheet")]
abbrev vr (P : jP) (k : Nat) : Value := .ref (jad P k)
/-- a cell's kind: the number of its class; 10: a row of ints; 11: the row of sheets -/
def jkdl : List Nat := [8, 7, 10, 10, 10, 10, 10, 10, 7, 10, 10, 10, 10, 10, 10, 6, 0, 10, 1, 10, 2, 10, 4, 10, 3, 10, 10, 11, 5, 10, 5, 10, 5, 10, 5, 10, 9, 10, 10, 10, 10, 10, 10, 10, 10, 10, 10, 10, 10, 10, 10, 10, 10, 10, 10, 10, 10, 10, 10, 10, 10, 10, 10, 10, 10]
def jlnl : List Nat := [0, 0, 3, 6, 6, 6, 6, 6, 0, 3, 6, 6, 6, 6, 6, 0, 0, 6, 0, 6, 0, 3, 0, 301, 0, 8, 8, 4, 0, 60, 0, 60, 0, 60, 0, 60, 0, 3, 6, 6, 6, 6, 6, 6, 3, 6, 6, 6, 6, 6, 6, 6, 3, 3, 6, 6, 3, 6, 301, 8, 8, 4, 4, 240, 60]
def jrfl : List (List (Option Nat)) := [[some 1, some 8, some 15, some 16, some 18, some 20, some 22, some 24, some 27, none, none], [none, none, none, none, some 2, some 3, some 4, some 5, some 6, some 7], [], [], [], [], [], [], [none, none, none, none, some 9, some 10, some 11, some 12, some 13, some 14], [], [], [], [], [], [], [], [some 17], [], [some 19], [], [some 21, none], [], [some 23, none, none], [], [some 25, some 26, none], [], [], [], [some 29, none, none], [], [some 31, none, none], [], [some 33, none, none], [], [some 35, none, none], [], [none, none, none, none, none, some 37, some 38, some 39, some 40, some 41, some 42, some 43, none, none, none, some 44, some 45, some 46, some 47, some 48, some 49, some 50, some 51, some 52, none, none, some 53, some 54, some 55, none, some 56, some 57, some 58, none, some 59, some 60, some 61, some 62, some 63, some 64, none], [], [], [], [], [], [], [], [], [], [], [], [], [], [], [], [], [], [], [], [], [], [], [], [], [], [], [], []]
def jbdl : List (List (Int × Int)) := [[(0, 0), (0, 0), (0, 0), (0, 0), (0, 0), (0, 0), (0, 0), (0, 0), (0, 0), ((-2147483648), 2147483647), (0, 4)], [(0, 3), (0, 6), (0, 2), (0, 9)], [(0, 9)], [(0, 2)], [(0, 9)], [(0, 9)], [(0, 2)], [(0, 9)], [(0, 3), (0, 6), (0, 2), (0, 9)], [(0, 9)], [(0, 2)], [(0, 9)], [(0, 9)], [(0, 2)], [(0, 9)], [], [], [(0, 63)], [], [(0, 9)], [(0, 0), ((-9), 6)], [(0, 9)], [(0, 0), ((-9), 300), ((-9), 301)], [(0, 999999)], [(0, 0), (0, 0), (0, 8)], [(0, 5)], [(0, 9)], [], [(0, 0), ((-1), 2), (0, 60)], [((-2147483648), 2147483647)], [(0, 0), ((-1), 2), (0, 60)], [((-2147483648), 2147483647)], [(0, 0), ((-1), 2), (0, 60)], [((-2147483648), 2147483647)], [(0, 0), ((-1), 2), (0, 60)], [((-2147483648), 2147483647)], [(0, 4), (0, 3), (0, 6), (0, 2), (0, 9), (0, 0), (0, 0), (0, 0), (0, 0), (0, 0), (0, 0), (0, 0), (0, 60), (0, 3), (0, 6), (0, 0), (0, 0), (0, 0), (0, 0), (0, 0), (0, 0), (0, 0), (0, 0), (0, 0), (0, 2), (0, 9), (0, 0), (0, 0), (0, 0), (0, 99), (0, 0), (0, 0), (0, 0), (0, 8), (0, 0), (0, 0), (0, 0), (0, 0), (0, 0), (0, 0), ((-2147483648), 2147483647)], [(0, 9)], [(0, 2)], [(0, 9)], [(0, 9)], [(0, 2)], [(0, 9)], [(0, 63)], [(0, 9)], [(0, 2)], [((-9), 9)], [((-9), 9)], [((-9), 2)], [((-9), 9)], [(0, 9)], [(0, 6)], [((-99), 9)], [(0, 9)], [(0, 9)], [(0, 2)], [(0, 9)], [(0, 6)], [(0, 999999)], [(0, 5)], [(0, 9)], [((-1), 60)], [(0, 2)], [((-2147483648), 2147483647)], [((-2147483648), 2147483647)]]
def jkd (k : Nat) : Nat := jkdl.getD k 99
def jln (k : Nat) : Nat := jlnl.getD k 0
def jrf (k : Nat) : List (Option Nat) := jrfl.getD k []
/-- the bounds: of a row of ints one pair, of an object's slot j its own -/
def jbd (k j : Nat) : Int × Int := (jbdl.getD k []).getD j (0, 0)
def jbi (k : Nat) (j : Int) : Int × Int := if jkd k = 10 then jbd k 0 else jbd k j.toNat
def jBd (σ : jS) : Prop := ∀ (k : Nat) (j : Int), (jbi k j).1 ≤ σ k j ∧ σ k j ≤ (jbi k j).2
def jup (σ : jS) (k : Nat) (j z : Int) (k' : Nat) (j' : Int) : Int := if k' = k then (if j' = j then z else σ k' j') else σ k' j'
def jset (σ : jS) (k : Nat) (f : Int → Int) (k' : Nat) (j' : Int) : Int := if k' = k then f j' else σ k' j'
def jfv (P : jP) (f : Int → Int) : Nat → List (Option Nat) → List Value
  | _, [] => []
  | i, none :: l => vi (f (i : Int)) :: jfv P f (i + 1) l
  | i, some r :: l => vr P r :: jfv P f (i + 1) l
def jce (P : jP) (k : Nat) (f : Int → Int) : va_E :=
  if jkd k = 10 then .inl (P.2.2.1, jln k, .inl (fun j => iI (f (j : Int))))
  else if jkd k = 11 then .inl (P.2.2.2.1, 4, .inr (.inr (.inr (.inr (fun j => some (jad P (28 + 2 * j)))))))
  else .inr (jkd k, jfv P f 0 (jrf k))
def jwd (P : jP) (σ : jS) : va_W := (List.range 65).map (fun k => (jad P k, jce P k (σ k)))
def jA (P : jP) : Nat → Prop := fun q => ∃ k, k < 65 ∧ q = jad P k
def jJ (P : jP) : Prop := ∀ i j, i < 65 → j < 65 → jad P i = jad P j → i = j
theorem jwd_at {P : jP} {σ : jS} {k : Nat} (hk : k < 65) : (jwd P σ)[k]? = some (jad P k, jce P k (σ k)) := by
  simp [jwd, List.getElem?_range, hk]
theorem jwd_D {P : jP} (h : jJ P) (σ : jS) : va_D (jA P) (jwd P σ) := by
  have key : ∀ (k : Nat) (q : Nat × va_E), (jwd P σ)[k]? = some q → k < 65 ∧ q.1 = jad P k := by
    intro k q hq
    have hk : k < 65 := by
      have := (List.getElem?_eq_some_iff.mp hq).1
      simpa [jwd] using this
    rw [jwd_at hk] at hq
    cases hq
    exact ⟨hk, rfl⟩
  refine ⟨fun i j p q hp hq e => ?_, fun k q hq => ?_⟩
  · obtain ⟨h1, h2⟩ := key i p hp
    obtain ⟨h3, h4⟩ := key j q hq
    exact h i j h1 h3 (by rw [← h2, ← h4]; exact e)
  · obtain ⟨h1, h2⟩ := key k q hq
    exact ⟨k, h1, h2⟩
theorem jwd_set {P : jP} {σ : jS} {k : Nat} (f : Int → Int) (hk : k < 65) : (jwd P σ).set k (jad P k, jce P k f) = jwd P (jset σ k f) := by
  apply List.ext_getElem?
  intro i
  by_cases hi : i < 65
  · by_cases e : i = k
    · subst e
      rw [List.getElem?_set_self (by simp [jwd]; exact hk), jwd_at hk]
      have : jset σ i f i = f := by funext j'; simp [jset]
      rw [this]
    · rw [List.getElem?_set_ne (fun q => e q.symm), jwd_at hi, jwd_at hi]
      have : jset σ k f i = σ i := by funext j'; simp [jset, e]
      rw [this]
  · rw [List.getElem?_eq_none (by simp [jwd]; omega), List.getElem?_eq_none (by simp [jwd]; omega)]
theorem jfv_get {P : jP} {f : Int → Int} : ∀ {l : List (Option Nat)} {i j : Nat} {x : Option Nat}, l[j]? = some x → (jfv P f i l)[j]? = some (match x with | none => vi (f ((i + j : Nat) : Int)) | some r => vr P r)
  | [], _, _, _, h => by simp at h
  | none :: l, i, 0, x, h => by simp at h; subst h; simp [jfv]
  | some r :: l, i, 0, x, h => by simp at h; subst h; simp [jfv]
  | none :: l, i, j + 1, x, h => by
    have := jfv_get (P := P) (f := f) (l := l) (i := i + 1) (j := j) (x := x) (by simpa using h)
    rw [show i + (j + 1) = i + 1 + j by omega]
    simpa [jfv] using this
  | some r :: l, i, j + 1, x, h => by
    have := jfv_get (P := P) (f := f) (l := l) (i := i + 1) (j := j) (x := x) (by simpa using h)
    rw [show i + (j + 1) = i + 1 + j by omega]
    simpa [jfv] using this
theorem jfv_len {P : jP} {f : Int → Int} : ∀ {l : List (Option Nat)} {i : Nat}, (jfv P f i l).length = l.length
  | [], _ => rfl
  | none :: l, i => by simp [jfv, jfv_len]
  | some r :: l, i => by simp [jfv, jfv_len]
theorem jfv_ext {P : jP} {f g : Int → Int} : ∀ {l : List (Option Nat)} {i : Nat}, (∀ j : Nat, i ≤ j → f (j : Int) = g (j : Int)) → jfv P f i l = jfv P g i l
  | [], _, _ => rfl
  | none :: l, i, h => by
    simp only [jfv]
    rw [h i (Nat.le_refl i), jfv_ext (fun j hj => h j (by omega))]
  | some r :: l, i, h => by
    simp only [jfv]
    rw [jfv_ext (fun j hj => h j (by omega))]
theorem jfv_set {P : jP} {f : Int → Int} {z : Int} : ∀ {l : List (Option Nat)} {i j : Nat}, l[j]? = some none → (jfv P f i l).set j (vi z) = jfv P (fun j' => if j' = ((i + j : Nat) : Int) then z else f j') i l
  | [], _, _, h => by simp at h
  | none :: l, i, 0, h => by
    simp only [jfv, List.set_cons_zero]
    rw [if_pos (by simp)]
    congr 1
    exact jfv_ext (fun j hj => by rw [if_neg (by omega)])
  | some r :: l, i, 0, h => by simp at h
  | none :: l, i, j + 1, h => by
    have := jfv_set (P := P) (f := f) (z := z) (l := l) (i := i + 1) (j := j) (by simpa using h)
    simp only [jfv, List.set_cons_succ]
    rw [this, if_neg (by omega), show i + 1 + j = i + (j + 1) by omega]
  | some r :: l, i, j + 1, h => by
    have := jfv_set (P := P) (f := f) (z := z) (l := l) (i := i + 1) (j := j) (by simpa using h)
    simp only [jfv, List.set_cons_succ]
    rw [this, show i + 1 + j = i + (j + 1) by omega]
theorem jup_eq (σ : jS) (k : Nat) (j z : Int) : jset σ k (fun j' => if j' = j then z else σ k j') = jup σ k j z := by
  funext k' j'
  unfold jset jup
  split
  · rename_i h; rw [h]
  · rfl
theorem jBd_up {σ : jS} {k : Nat} {j z : Int} (h : jBd σ) (h1 : (jbi k j).1 ≤ z) (h2 : z ≤ (jbi k j).2) : jBd (jup σ k j z) := by
  intro k' j'
  unfold jup
  by_cases e : k' = k
  · subst e
    rw [if_pos rfl]
    by_cases e2 : j' = j
    · subst e2; rw [if_pos rfl]; exact ⟨h1, h2⟩
    · rw [if_neg e2]; exact h k' j'
  · rw [if_neg e]; exact h k' j'
theorem jBd_set {σ : jS} {k : Nat} {f : Int → Int} (h : jBd σ) (hf : ∀ j, (jbi k j).1 ≤ f j ∧ f j ≤ (jbi k j).2) : jBd (jset σ k f) := by
  intro k' j'
  unfold jset
  by_cases e : k' = k
  · subst e; rw [if_pos rfl]; exact hf j'
  · rw [if_neg e]; exact h k' j'
/-! ===== the judgement: a method's body from pc on, over the world σ ===== -/
abbrev jMt : Type := String × ByteArray × Nat × Option FieldType
/-- a method's end: the answer r and the world σ' with Q -/
def jQ (P : jP) (Q : Option Value → jS → Prop) : Array Value → State → Outcome → State → Prop := fun _ st oc t => (∃ (r : Option Value) (σ : jS), oc = .returned r ∧ Q r σ ∧ jBd σ ∧ va_P (jD P) vwCl (jwd P σ) t.heap) ∧ va_F (jA P) st t
def qi (F : Int → jS → Prop) : Option Value → jS → Prop := fun r σ => ∃ z, r = some (vi z) ∧ F z σ
def ql (F : Int → jS → Prop) : Option Value → jS → Prop := fun r σ => ∃ z, r = some (vl z) ∧ F z σ
def qv (F : jS → Prop) : Option Value → jS → Prop := fun r σ => r = none ∧ F σ
def jC (P : jP) (dp : Nat) (M : jMt) (p : Program) (R : Room) (s : State) (m : MethodId) (args : Array Value) (meth : Method) (c : Code) : Prop :=
  p.tables.exec = Jvm.exec ∧ c.code = M.2.1 ∧ c.maxLocals = M.2.2.1 ∧ meth.sig.returnType = M.2.2.2 ∧ meth.locks = false ∧ s.vm.findClass M.1 = some m.cls ∧ (∀ w ∈ jw, w.before args s = true) ∧ va_K (jD P) vwCl (jty P) s ∧ jJ P ∧ dp ≤ R.frames ∧ 40 * dp ≤ R.locals ∧ jBd (fun _ _ => 0 : jS)
def J (P : jP) (dp : Nat) (M : jMt) (pc : Nat) (L : List (Option Value)) (st : List Value) (σ : jS) (Q : Option Value → jS → Prop) : Prop :=
  jBd σ → ∀ (p : Program) (l : Launch) (e : Env) (R : Room) (s : State) (m : MethodId) (args : Array Value) (below : List Frame) (meth : Method) (c : Code), jC P dp M p R s m args meth c → ∀ (H : Heap) (locs : List Loc), va_P (jD P) vwCl (jwd P σ) H → va_S (jA P) s.heap H locs → ∀ ls : Array Slot, jH ls M.2.2.1 L → W p l e R s m args below meth c H locs 0 0 (MQ below (jQ P Q) args s 0 0 (jA P)) (F0 m pc ls st)
/-- a method's contract: called with av over the world σ, whatever lies below it, with dp frames' room -/
def Ct (P : jP) (dp : Nat) (y : MethodName) (cc : ByteArray) (nL : Nat) (ret : Option FieldType) (av : List Value) (σ : jS) (Q : Option Value → jS → Prop) : Prop :=
  jBd σ → jJ P → ∀ (l : Launch) (rm : Room), rm.cells = 0 → rm.slots = 0 → dp ≤ rm.frames → 40 * dp ≤ rm.locals → Met l y (.code y cc nL ret :: jw) rm (va_Pc av (fun U => va_P (jD P) vwCl (jwd P σ) U.heap ∧ va_K (jD P) vwCl (jty P) U)) (jQ P Q) 0 0 (jA P)
theorem jBd0 : jBd (fun _ _ => 0 : jS) := by
  have key : ∀ l ∈ jbdl, ∀ q ∈ l, q.1 ≤ 0 ∧ 0 ≤ q.2 := by decide +kernel
  have at0 : ∀ k j : Nat, (jbd k j).1 ≤ 0 ∧ 0 ≤ (jbd k j).2 := by
    intro k j
    unfold jbd
    rw [List.getD_eq_getElem?_getD, List.getD_eq_getElem?_getD]
    cases h1 : jbdl[k]? with
    | none => simp
    | some l =>
      simp only [Option.getD_some]
      cases h2 : l[j]? with
      | none => simp
      | some q =>
        simp only [Option.getD_some]
        exact key l (List.mem_of_getElem? h1) q (List.mem_of_getElem? h2)
  intro k j
  unfold jbi
  split
  · exact at0 k 0
  · exact at0 k j.toNat
theorem Ct.of {P : jP} {dp : Nat} {own : String} {y : MethodName} {cc : ByteArray} {nL : Nat} {ret : Option FieldType} {av : List Value} {σ : jS} {Q : Option Value → jS → Prop} (L : List (Option Value)) (hL : lpad nL av = L) (hy : plainName y.cls = true) (ho : y.cls = own) (hn : (lg_sl av).length ≤ nL) (h : jBd σ → J P dp (own, cc, nL, ret) 0 L [] σ Q) : Ct P dp y cc nL ret av σ Q := by
  intro B hJ l rm h1 h2 h3 h4
  refine Met.ofW (cc := cc) (maxL := nL) (ret := ret) hy rfl ?_
  intro p e s m args below meth c s₁ Bd hml hv
  obtain ⟨rfl, hP, hK⟩ := hv
  have hts := atoms_spec (ws := .code y cc nL ret :: jw) Bd.pre
  have hown : s.vm.findClass y.cls = some m.cls := findClass_of_methodNamed Bd.named
  rw [lg_entry_eq]
  refine h B B p l e rm s m av.toArray below meth c ⟨Bd.exec, Bd.bytes, hml, Bd.returns, Bd.notSynchronized, by rw [← ho]; exact hown, fun w hw => hts w (List.mem_cons_of_mem _ hw), hK, hJ, h3, h4, jBd0⟩ s.heap [] hP va_S.rf _ ?_
  rw [← hL]
  exact jH_entry hn
