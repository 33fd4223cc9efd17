/-! ===== 74: prices: numbers ===== -/
/-- the greatest of 1 to m below v, 0: none -/
def pbF (f : Nat → Nat) (v : Nat) : Nat → Nat
  | 0 => 0
  | m + 1 => if f (m + 1) < v then m + 1 else pbF f v m
def sInc (f : Nat → Nat) : Prop := ∀ p, f p < f (p + 1)
theorem sInc.lt {f : Nat → Nat} (h : sInc f) {a b : Nat} (hab : a < b) : f a < f b := by
  induction b with
  | zero => omega
  | succ b ih =>
    by_cases hb : a = b
    · subst hb; exact h a
    · exact Nat.lt_trans (ih (by omega)) (h b)
theorem pbF_le (f : Nat → Nat) (v : Nat) : ∀ m, pbF f v m ≤ m
  | 0 => Nat.le_refl _
  | m + 1 => by
    unfold pbF
    split
    · exact Nat.le_refl _
    · exact Nat.le_succ_of_le (pbF_le f v m)
theorem pbF_iff {f : Nat → Nat} (h : sInc f) (v : Nat) : ∀ m p, 1 ≤ p → p ≤ m → (p ≤ pbF f v m ↔ f p < v)
  | 0, p, h1, h2 => by omega
  | m + 1, p, h1, h2 => by
    unfold pbF
    by_cases hm : f (m + 1) < v
    · rw [if_pos hm]
      by_cases hp : p = m + 1
      · subst hp; exact ⟨fun _ => hm, fun _ => Nat.le_refl _⟩
      · exact ⟨fun _ => Nat.lt_trans (h.lt (by omega)) hm, fun _ => h2⟩
    · rw [if_neg hm]
      by_cases hp : p = m + 1
      · subst hp
        have := pbF_le f v m
        exact ⟨fun z => by omega, fun z => absurd z hm⟩
      · exact pbF_iff h v m p h1 (by omega)
theorem pbF_eq {f : Nat → Nat} (h : sInc f) {v m z : Nat} (hz : z ≤ m) (h1 : z = 0 ∨ f z < v) (h2 : z = m ∨ v ≤ f (z + 1)) : pbF f v m = z := by
  have hl := pbF_le f v m
  apply Nat.le_antisymm
  · rcases Nat.lt_or_ge z (pbF f v m) with w | w
    · have := (pbF_iff h v m (z + 1) (by omega) (by omega)).mp w
      rcases h2 with e | e
      · omega
      · omega
    · exact w
  · rcases h1 with e | e
    · omega
    · rcases Nat.eq_zero_or_pos z with w | w
      · omega
      · exact (pbF_iff h v m z w hz).mpr e
/-- how many of 1 to m, the first, the last -/
def cnC (c : Nat → Bool) : Nat → Nat
  | 0 => 0
  | m + 1 => cnC c m + if c (m + 1) = true then 1 else 0
def leC (c : Nat → Bool) : Nat → Nat
  | 0 => 0
  | m + 1 => if leC c m = 0 then (if c (m + 1) = true then m + 1 else 0) else leC c m
def moC (c : Nat → Bool) : Nat → Nat
  | 0 => 0
  | m + 1 => if c (m + 1) = true then m + 1 else moC c m
theorem cnC_le (c : Nat → Bool) : ∀ m, cnC c m ≤ m
  | 0 => Nat.le_refl _
  | m + 1 => by have := cnC_le c m; unfold cnC; split <;> omega
theorem leC_le (c : Nat → Bool) : ∀ m, leC c m ≤ m
  | 0 => Nat.le_refl _
  | m + 1 => by
    have := leC_le c m
    unfold leC
    split
    · split <;> omega
    · omega
theorem moC_le (c : Nat → Bool) : ∀ m, moC c m ≤ m
  | 0 => Nat.le_refl _
  | m + 1 => by have := moC_le c m; unfold moC; split <;> omega
theorem cnC_span {c : Nat → Bool} {a lo : Nat} (hlo : 1 ≤ lo) : ∀ b, a ≤ b → (∀ p, a < p → p ≤ b → (c p = true ↔ lo ≤ p)) → cnC c b = cnC c a + (b - max (lo - 1) a)
  | 0, hb, h => by
    have : a = 0 := by omega
    subst this; omega
  | b + 1, hb, h => by
    by_cases hab : a = b + 1
    · subst hab; omega
    · have ih := cnC_span hlo b (by omega) (fun p h1 h2 => h p h1 (by omega))
      rw [cnC, ih]
      have hb1 := h (b + 1) (by omega) (Nat.le_refl _)
      by_cases hc : c (b + 1) = true
      · rw [if_pos hc]
        have := hb1.mp hc
        omega
      · rw [if_neg hc]
        have : ¬ lo ≤ b + 1 := fun z => hc (hb1.mpr z)
        omega
theorem cnC_none {c : Nat → Bool} {a : Nat} : ∀ b, a ≤ b → (∀ p, a < p → p ≤ b → c p = false) → cnC c b = cnC c a
  | 0, hb, h => by
    have : a = 0 := by omega
    subst this; rfl
  | b + 1, hb, h => by
    by_cases hab : a = b + 1
    · subst hab; rfl
    · rw [cnC, cnC_none b (by omega) (fun p h1 h2 => h p h1 (by omega)), h (b + 1) (by omega) (Nat.le_refl _)]
      simp
theorem leC_none {c : Nat → Bool} : ∀ m, (∀ p, 1 ≤ p → p ≤ m → c p = false) → leC c m = 0
  | 0, _ => rfl
  | m + 1, h => by
    rw [leC, leC_none m (fun p h1 h2 => h p h1 (by omega)), if_pos rfl, h (m + 1) (by omega) (Nat.le_refl _)]
    simp
theorem leC_eq {c : Nat → Bool} {z : Nat} (hz : 1 ≤ z) (h1 : c z = true) (h2 : ∀ p, 1 ≤ p → p < z → c p = false) : ∀ m, z ≤ m → leC c m = z
  | 0, h => by omega
  | m + 1, h => by
    rw [leC]
    by_cases hm : z = m + 1
    · rw [leC_none m (fun p q1 q2 => h2 p q1 (by omega)), if_pos rfl, ← hm, h1, if_pos rfl]
    · rw [leC_eq hz h1 h2 m (by omega), if_neg (by omega)]
theorem moC_none {c : Nat → Bool} : ∀ m, (∀ p, 1 ≤ p → p ≤ m → c p = false) → moC c m = 0
  | 0, _ => rfl
  | m + 1, h => by
    rw [moC, h (m + 1) (by omega) (Nat.le_refl _), moC_none m (fun p h1 h2 => h p h1 (by omega))]
    simp
theorem moC_eq {c : Nat → Bool} {z : Nat} (hz : 1 ≤ z) (h1 : c z = true) : ∀ m, z ≤ m → (∀ p, z < p → p ≤ m → c p = false) → moC c m = z
  | 0, h, _ => by omega
  | m + 1, h, h2 => by
    rw [moC]
    by_cases hm : z = m + 1
    · rw [← hm, h1, if_pos rfl]
    · rw [h2 (m + 1) (by omega) (Nat.le_refl _)]
      simp only [Bool.false_eq_true, if_false]
      exact moC_eq hz h1 m (by omega) (fun p q1 q2 => h2 p q1 (by omega))
/-- spans -/
abbrev covB (q : List (Nat × Nat)) (p : Nat) : Prop := ∃ y ∈ q, y.1 ≤ p ∧ p ≤ y.2
/-- how many end beyond r -/
def nbY (r : Nat) : List (Nat × Nat) → Nat
  | [] => 0
  | y :: q => (if r < y.2 then 1 else 0) + nbY r q
theorem nbY_mono {r r' : Nat} (h : r ≤ r') : ∀ q, nbY r' q ≤ nbY r q
  | [] => Nat.le_refl _
  | y :: q => by
    have := nbY_mono h q
    unfold nbY
    split <;> split <;> omega
theorem nbY_lt {r r' : Nat} (h : r ≤ r') : ∀ q, (∃ y ∈ q, r < y.2 ∧ y.2 ≤ r') → nbY r' q < nbY r q
  | [], ⟨y, hy, _⟩ => absurd hy List.not_mem_nil
  | z :: q, ⟨y, hy, h1, h2⟩ => by
    have hm := nbY_mono h q
    unfold nbY
    rcases List.mem_cons.mp hy with e | e
    · subst e
      rw [if_neg (by omega), if_pos h1]; omega
    · have := nbY_lt h q ⟨y, e, h1, h2⟩
      split <;> split <;> omega
theorem nbY_zero {r : Nat} : ∀ q, nbY r q = 0 → ∀ y ∈ q, y.2 ≤ r
  | [], _, y, hy => absurd hy List.not_mem_nil
  | z :: q, h, y, hy => by
    unfold nbY at h
    rcases List.mem_cons.mp hy with e | e
    · subst e
      split at h <;> omega
    · exact nbY_zero q (by omega) y e
theorem nbY_len (r : Nat) : ∀ q, nbY r q ≤ q.length
  | [] => Nat.le_refl _
  | y :: q => by
    have := nbY_len r q
    unfold nbY
    rw [List.length_cons]
    split <;> omega
/-- the span of prices that a test makes -/
def slN (T : Nat → Nat) (x : Nat) : Nat := x * T 6 / 100
def loN (T : Nat → Nat) (f : Nat → Nat) (x : Nat) : Nat := pbF f (x - slN T x) 9999 + 1
def hiN (T : Nat → Nat) (f : Nat → Nat) (x : Nat) : Nat := pbF f (x + slN T x + 1) 9999
def spn (T : Nat → Nat) (f : Nat → Nat) : List Nat → List (Nat × Nat)
  | [] => []
  | x :: l => (if loN T f x ≤ hiN T f x then [(loN T f x, hiN T f x)] else []) ++ spn T f l
section PN
variable {T : Nat → Nat} {f : Nat → Nat}
theorem spn_in : ∀ (l : List Nat), ∀ y ∈ spn T f l, 1 ≤ y.1 ∧ y.1 ≤ y.2 ∧ y.2 ≤ 9999
  | [], y, hy => absurd hy List.not_mem_nil
  | x :: l, y, hy => by
    unfold spn at hy
    rcases List.mem_append.mp hy with e | e
    · split at e
      · rename_i hc
        rw [List.mem_singleton.mp e]
        have : hiN T f x ≤ 9999 := pbF_le _ _ _
        exact ⟨by unfold loN; omega, hc, this⟩
      · exact absurd e List.not_mem_nil
    · exact spn_in l y e
theorem near_span (hf : sInc f) (hT6 : T 6 ≤ 100) {p x : Nat} (h1 : 1 ≤ p) (h2 : p ≤ 9999) : nearT (f p) (T 6) x = true ↔ loN T f x ≤ p ∧ p ≤ hiN T f x := by
  have hs : slN T x ≤ x := by
    unfold slN
    apply Nat.div_le_of_le_mul
    rw [Nat.mul_comm]
    exact Nat.mul_le_mul_right _ hT6
  have e1 := pbF_iff hf (x - slN T x) 9999 p h1 h2
  have e2 := pbF_iff hf (x + slN T x + 1) 9999 p h1 h2
  unfold loN hiN nearT
  rw [decide_eq_true_iff, e2]
  have e3 : 100 * ((f p - x) + (x - f p)) ≤ T 6 * x ↔ (f p - x) + (x - f p) ≤ slN T x := by
    unfold slN
    rw [Nat.le_div_iff_mul_le (by decide), Nat.mul_comm 100, Nat.mul_comm (T 6)]
  rw [e3]
  have e4 : pbF f (x - slN T x) 9999 + 1 ≤ p ↔ ¬ f p < x - slN T x := by rw [← e1]; omega
  rw [e4]
  omega
theorem spn_cov (hf : sInc f) (hT6 : T 6 ≤ 100) {p : Nat} (h1 : 1 ≤ p) (h2 : p ≤ 9999) : ∀ l : List Nat, l.any (nearT (f p) (T 6)) = true ↔ covB (spn T f l) p
  | [] => by
    constructor
    · intro h; simp at h
    · rintro ⟨y, hy, _⟩; exact absurd hy List.not_mem_nil
  | x :: l => by
    have ih := spn_cov hf hT6 h1 h2 l
    have e := near_span (T := T) hf hT6 (x := x) h1 h2
    rw [List.any_cons, Bool.or_eq_true, ih, e, show spn T f (x :: l) = (if loN T f x ≤ hiN T f x then [(loN T f x, hiN T f x)] else []) ++ spn T f l from rfl]
    constructor
    · rintro (⟨w1, w2⟩ | ⟨y, hy, w⟩)
      · rw [if_pos (by omega)]
        exact ⟨_, List.mem_append.mpr (Or.inl (List.mem_singleton.mpr rfl)), w1, w2⟩
      · exact ⟨y, List.mem_append.mpr (Or.inr hy), w⟩
    · rintro ⟨y, hy, w⟩
      rcases List.mem_append.mp hy with z | z
      · split at z
        · rw [List.mem_singleton.mp z] at w
          exact Or.inl w
        · exact absurd z List.not_mem_nil
      · exact Or.inr ⟨y, z, w⟩
end PN
