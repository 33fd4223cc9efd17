/-! ===== 76: words and numbers as signs ===== -/
def outB (b : Nat) : Nat → Nat → List Nat
  | 0, _ => []
  | k + 1, v => outB b k (v / b) ++ (if v % b = 0 then [] else [96 + v % b])
def dgB (b k v : Nat) : List Nat := if v / b ^ k % b = 0 then [] else [96 + v / b ^ k % b]
theorem dgB_div (b k v : Nat) : dgB b k (v / b) = dgB b (k + 1) v := by
  unfold dgB
  rw [Nat.div_div_eq_div_mul, Nat.pow_succ, Nat.mul_comm (b ^ k) b]
theorem outB_hi (b : Nat) : ∀ k v, outB b (k + 1) v = dgB b k v ++ outB b k v
  | 0, v => by simp [outB, dgB]
  | k + 1, v => by
    rw [outB, outB_hi b k (v / b), dgB_div, List.append_assoc]
    rfl
theorem enc_app (b : Nat) (w : List Nat) (c : Nat) : enc b (w ++ [c]) = enc b w * b + c := by
  unfold enc
  rw [List.foldl_append]
  rfl
theorem enc_cat {b : Nat} {w : List Nat} (h : w ≠ []) : ∃ w' c, w = w' ++ [c] ∧ w'.length + 1 = w.length ∧ c ∈ w ∧ ∀ x ∈ w', x ∈ w := by
  have e := List.dropLast_concat_getLast h
  refine ⟨w.dropLast, w.getLast h, e.symm, ?_, List.getLast_mem h, fun x hx => ?_⟩
  · have := congrArg List.length e
    rw [List.length_append] at this
    simpa using this
  · rw [← e]; exact List.mem_append.mpr (Or.inl hx)
theorem outB_enc {b : Nat} (hb : 27 ≤ b) : ∀ (k : Nat) (w : List Nat), w.length ≤ k → (∀ c ∈ w, 1 ≤ c ∧ c ≤ 26) → outB b k (enc b w) = w.map (96 + ·)
  | 0, w, hl, hc => by
    have : w = [] := List.eq_nil_of_length_eq_zero (by omega)
    subst this; rfl
  | k + 1, w, hl, hc => by
    by_cases hw : w = []
    · subst hw
      have := outB_enc hb k [] (Nat.zero_le _) (fun c h => absurd h List.not_mem_nil)
      rw [outB]
      show outB b k (0 / b) ++ (if 0 % b = 0 then [] else [96 + 0 % b]) = []
      rw [Nat.zero_div, Nat.zero_mod, if_pos rfl, List.append_nil]
      exact this
    · obtain ⟨w', c, e, h1, h2, h3⟩ := enc_cat (b := b) hw
      have hcc := hc c h2
      rw [e, enc_app, outB, Nat.add_comm, Nat.add_mul_div_right _ _ (by omega), Nat.div_eq_of_lt (by omega), Nat.zero_add, Nat.add_mul_mod_self_right, Nat.mod_eq_of_lt (by omega), if_neg (by omega), outB_enc hb k w' (by omega) (fun x hx => hc x (h3 x hx)), List.map_append]
      rfl
theorem enc_lt {b : Nat} (hb : 27 ≤ b) : ∀ (k : Nat) (w : List Nat), w.length ≤ k → (∀ c ∈ w, 1 ≤ c ∧ c ≤ 26) → enc b w < b ^ k
  | 0, w, hl, hc => by
    have : w = [] := List.eq_nil_of_length_eq_zero (by omega)
    subst this
    exact Nat.zero_lt_one
  | k + 1, w, hl, hc => by
    by_cases hw : w = []
    · subst hw
      exact Nat.pow_pos (by omega)
    · obtain ⟨w', c, e, h1, h2, h3⟩ := enc_cat (b := b) hw
      have hcc := hc c h2
      have ih := enc_lt hb k w' (by omega) (fun x hx => hc x (h3 x hx))
      rw [e, enc_app, Nat.pow_succ]
      have : (enc b w' + 1) * b ≤ b ^ k * b := Nat.mul_le_mul_right _ ih
      rw [Nat.add_mul, Nat.one_mul] at this
      omega
theorem enc_inj {b : Nat} (hb : 27 ≤ b) {w w' : List Nat} (h : ∀ c ∈ w, 1 ≤ c ∧ c ≤ 26) (h' : ∀ c ∈ w', 1 ≤ c ∧ c ≤ 26) (e : enc b w = enc b w') : w = w' := by
  have e1 := outB_enc hb (max w.length w'.length) w (Nat.le_max_left _ _) h
  have e2 := outB_enc hb (max w.length w'.length) w' (Nat.le_max_right _ _) h'
  rw [e, e2] at e1
  have := congrArg (List.map (fun x => x - 96)) e1
  rw [List.map_map, List.map_map] at this
  have id1 : ((fun x => x - 96) ∘ fun x => 96 + x) = (id : Nat → Nat) := funext fun x => by show 96 + x - 96 = x; omega
  rw [id1, List.map_id, List.map_id] at this
  exact this.symm
/-- the digits k to 0 -/
def hiD : Nat → Nat → List Nat
  | 0, v => [48 + v % 10]
  | k + 1, v => (48 + v / 10 ^ (k + 1) % 10) :: hiD k v
/-- of how many digits, less one -/
def nmD : Nat → Nat → Nat → Nat
  | 0, m, _ => m
  | f + 1, m, v => if v / 10 ^ m < 10 then m else nmD f (m + 1) v
theorem nmD_ok : ∀ (f m v : Nat), v < 10 ^ (m + f + 1) → (m = 0 ∨ 10 ^ m ≤ v) → (nmD f m v = 0 ∨ 10 ^ nmD f m v ≤ v) ∧ v < 10 ^ (nmD f m v + 1) ∧ nmD f m v ≤ m + f ∧ m ≤ nmD f m v
  | 0, m, v, h1, h2 => by
    unfold nmD
    exact ⟨h2, h1, Nat.le_refl _, Nat.le_refl _⟩
  | f + 1, m, v, h1, h2 => by
    unfold nmD
    have hp : 0 < 10 ^ m := Nat.pow_pos (by decide)
    by_cases hc : v / 10 ^ m < 10
    · rw [if_pos hc]
      refine ⟨h2, ?_, by omega, Nat.le_refl _⟩
      rw [Nat.div_lt_iff_lt_mul hp] at hc
      rw [Nat.pow_succ, Nat.mul_comm]
      exact hc
    · rw [if_neg hc]
      have : 10 ^ (m + 1) ≤ v := by
        rw [Nat.pow_succ, Nat.mul_comm]
        exact (Nat.le_div_iff_mul_le hp).mp (by omega)
      obtain ⟨r1, r2, r3, r4⟩ := nmD_ok f (m + 1) v (by rw [show m + 1 + f + 1 = m + (f + 1) + 1 by omega]; exact h1) (Or.inr this)
      exact ⟨r1, r2, by omega, by omega⟩
/-- what the class and what the reference write of a number -/
def dec (v : Nat) : List Nat := hiD (nmD 17 0 v) v
theorem dec_ok {v : Nat} (h : v < 10 ^ 18) : (nmD 17 0 v = 0 ∨ 10 ^ nmD 17 0 v ≤ v) ∧ v < 10 ^ (nmD 17 0 v + 1) ∧ nmD 17 0 v ≤ 17 := by
  obtain ⟨r1, r2, r3, -⟩ := nmD_ok 17 0 v (by simpa using h) (Or.inl rfl)
  exact ⟨r1, r2, by omega⟩
theorem hiD_len : ∀ k v, (hiD k v).length = k + 1
  | 0, v => rfl
  | k + 1, v => by rw [hiD, List.length_cons, hiD_len k v]
theorem hiD_in : ∀ k v x, x ∈ hiD k v → x < 128
  | 0, v, x, h => by
    rw [hiD, List.mem_singleton] at h
    omega
  | k + 1, v, x, h => by
    rw [hiD] at h
    rcases List.mem_cons.mp h with e | e
    · omega
    · exact hiD_in k v x e
theorem hiD_cons (k v : Nat) : hiD k v = (48 + v / 10 ^ k % 10) :: (match k with | 0 => [] | k + 1 => hiD k v) := by
  cases k with
  | zero => simp [hiD]
  | succ k => rfl
