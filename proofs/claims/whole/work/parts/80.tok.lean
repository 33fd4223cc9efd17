/-! ===== 80: tokens, as both read them ===== -/
/-- a byte, as the class has it and as a number -/
def BYv (v : Int32) (b : Nat) : Prop := b < 256 ∧ v &&& nI 255 = nI b ∧ ((b < 128 ∧ v = nI b) ∨ (128 ≤ b ∧ v < nI 0))
theorem byv_all : ∀ i : Fin 256, ((Int8.ofBitVec (BitVec.ofNat 8 i.1)).toInt32 &&& nI 255 = nI i.1) ∧ ((i.1 < 128 ∧ (Int8.ofBitVec (BitVec.ofNat 8 i.1)).toInt32 = nI i.1) ∨ (128 ≤ i.1 ∧ (Int8.ofBitVec (BitVec.ofNat 8 i.1)).toInt32 < nI 0)) := by decide +kernel
theorem byv_of {v : Int32} (h : v.toInt8.toInt32 = v) : ∃ b, BYv v b := by
  have e : v = (Int8.ofBitVec (BitVec.ofNat 8 v.toInt8.toBitVec.toNat)).toInt32 := by
    rw [BitVec.ofNat_toNat, BitVec.setWidth_eq]
    exact h.symm
  have hl : v.toInt8.toBitVec.toNat < 256 := v.toInt8.toBitVec.isLt
  obtain ⟨h1, h2⟩ := byv_all ⟨_, hl⟩
  refine ⟨v.toInt8.toBitVec.toNat, hl, ?_, ?_⟩
  · rw [e]
    have e2 : (Int8.ofBitVec (BitVec.ofNat 8 v.toInt8.toBitVec.toNat)).toInt32.toInt8.toBitVec.toNat = v.toInt8.toBitVec.toNat := by rw [← e]
    rw [e2]; exact h1
  · rcases h2 with ⟨a, c⟩ | ⟨a, c⟩
    · exact Or.inl ⟨a, e.trans c⟩
    · exact Or.inr ⟨a, by rw [e]; exact c⟩
section BY
variable {v : Int32} {b : Nat}
theorem BYv.eq (h : BYv v b) {c : Nat} (hc : c < 128) : (v = nI c) = (b = c) := by
  obtain ⟨h1, -, h2⟩ := h
  rcases h2 with ⟨a, e⟩ | ⟨a, e⟩
  · rw [e]; exact propext (nI_eq (by omega) (by omega))
  · have hne : ¬ v = nI c := fun z => by rw [z] at e; exact nI_nlt (Nat.zero_le _) (by omega) e
    rw [eq_false hne]
    exact (eq_false (by omega)).symm
theorem BYv.lt (h : BYv v b) {c : Nat} (hc : c < 128) : (v < nI c) = (b < c ∨ 128 ≤ b) := by
  obtain ⟨h1, -, h2⟩ := h
  rcases h2 with ⟨a, e⟩ | ⟨a, e⟩
  · rw [e, nI_ltI (by omega) (by omega)]; exact propext (by omega)
  · have : v < nI c := by
      rw [Int32.lt_iff_toInt_lt, nI_toInt (by omega)] at *
      have : v.toInt < 0 := e
      omega
    rw [eq_true this]; exact (eq_true (Or.inr a)).symm
theorem BYv.gt (h : BYv v b) {c : Nat} (hc : c < 128) : (nI c < v) = (c < b ∧ b < 128) := by
  obtain ⟨h1, -, h2⟩ := h
  rcases h2 with ⟨a, e⟩ | ⟨a, e⟩
  · rw [e, nI_ltI (by omega) (by omega)]; exact propext (by omega)
  · have : ¬ nI c < v := by
      rw [Int32.lt_iff_toInt_lt, nI_toInt (by omega)] at *
      have : v.toInt < 0 := e
      omega
    rw [eq_false this]; exact (eq_false (by omega)).symm
theorem BYv.val (h : BYv v b) (hb : b < 128) : v = nI b := by
  rcases h.2.2 with ⟨-, e⟩ | ⟨a, -⟩
  · exact e
  · omega
end BY
abbrev isLt (x : Nat) : Prop := 97 ≤ x ∧ x ≤ 122
abbrev isDg (x : Nat) : Prop := 48 ≤ x ∧ x ≤ 57
def skp (b : Nat → Nat) : Nat → Nat → Nat
  | 0, q => q
  | f + 1, q => if b q = 32 ∨ b q = 10 then skp b f (q + 1) else q
/-- where a run of letters, of digits, ends -/
def rnL (b : Nat → Nat) : Nat → Nat → Nat
  | 0, q => q
  | f + 1, q => if isLt (b q) then rnL b f (q + 1) else q
def rnD (b : Nat → Nat) : Nat → Nat → Nat
  | 0, q => q
  | f + 1, q => if isDg (b q) then rnD b f (q + 1) else q
/-- letters, digits from p on, t of them -/
def ltW (b : Nat → Nat) (p : Nat) : Nat → List Nat
  | 0 => []
  | t + 1 => ltW b p t ++ [b (p + t) - 96]
def dgV (b : Nat → Nat) (p : Nat) : Nat → Nat
  | 0 => 0
  | t + 1 => dgV b p t * 10 + (b (p + t) - 48)
/-- the token at or behind q: its place, its kind, where it ends, its letters, its number -/
def tP (b : Nat → Nat) (N q : Nat) : Nat := skp b (N - q) q
def kdP (b : Nat → Nat) (N p : Nat) : Nat := if N ≤ p then 0 else if b p = 59 then 3 else if isLt (b p) then (if rnL b (N - p) p - p ≤ 7 then 1 else 4) else if isDg (b p) then (if rnD b (N - p) p - p ≤ 4 then 2 else 4) else 4
def edP (b : Nat → Nat) (N p : Nat) : Nat := if N ≤ p then p else if b p = 59 then p + 1 else if isLt (b p) then rnL b (N - p) p else if isDg (b p) then rnD b (N - p) p else p
def tK (b : Nat → Nat) (N q : Nat) : Nat := kdP b N (tP b N q)
def tE (b : Nat → Nat) (N q : Nat) : Nat := edP b N (tP b N q)
def tW (b : Nat → Nat) (N q : Nat) : List Nat := ltW b (tP b N q) (tE b N q - tP b N q)
def tV (b : Nat → Nat) (N q : Nat) : Nat := dgV b (tP b N q) (tE b N q - tP b N q)
/-- a word of the grammar: its number, 30: none -/
def gxN (w : List Nat) : Nat → Nat
  | 0 => 30
  | t + 1 => if w = gramW.getD t [] then t else gxN w t
def gx (w : List Nat) : Nat := gxN w 30
def ixW (g : Nat) : Int32 := if g = 30 then M1 else nI g
/-- which word of the grammar a token is -/
def tG (b : Nat → Nat) (N q : Nat) : Nat := if tK b N q = 1 then gx (tW b N q) else 30
section TF
variable {b : Nat → Nat} {N : Nat}
theorem skp_in (b : Nat → Nat) : ∀ f q, q ≤ skp b f q ∧ skp b f q ≤ q + f
  | 0, q => ⟨Nat.le_refl _, Nat.le_refl _⟩
  | f + 1, q => by
    unfold skp
    have := skp_in b f (q + 1)
    split <;> omega
theorem rnL_in (b : Nat → Nat) : ∀ f q, q ≤ rnL b f q ∧ rnL b f q ≤ q + f ∧ ∀ i, q ≤ i → i < rnL b f q → isLt (b i)
  | 0, q => ⟨Nat.le_refl _, Nat.le_refl _, fun i h1 h2 => by unfold rnL at h2; omega⟩
  | f + 1, q => by
    unfold rnL
    obtain ⟨h1, h2, h3⟩ := rnL_in b f (q + 1)
    by_cases hc : isLt (b q)
    · rw [if_pos hc]
      refine ⟨by omega, by omega, fun i k1 k2 => ?_⟩
      by_cases hi : i = q
      · subst hi; exact hc
      · exact h3 i (by omega) k2
    · rw [if_neg hc]
      exact ⟨Nat.le_refl _, by omega, fun i k1 k2 => by omega⟩
theorem rnD_in (b : Nat → Nat) : ∀ f q, q ≤ rnD b f q ∧ rnD b f q ≤ q + f ∧ ∀ i, q ≤ i → i < rnD b f q → isDg (b i)
  | 0, q => ⟨Nat.le_refl _, Nat.le_refl _, fun i h1 h2 => by unfold rnD at h2; omega⟩
  | f + 1, q => by
    unfold rnD
    obtain ⟨h1, h2, h3⟩ := rnD_in b f (q + 1)
    by_cases hc : isDg (b q)
    · rw [if_pos hc]
      refine ⟨by omega, by omega, fun i k1 k2 => ?_⟩
      by_cases hi : i = q
      · subst hi; exact hc
      · exact h3 i (by omega) k2
    · rw [if_neg hc]
      exact ⟨Nat.le_refl _, by omega, fun i k1 k2 => by omega⟩
theorem tP_in {q : Nat} (hq : q ≤ N) : q ≤ tP b N q ∧ tP b N q ≤ N := by
  have := skp_in b (N - q) q
  unfold tP
  omega
theorem edP_in {p : Nat} (hp : p ≤ N) : p ≤ edP b N p ∧ edP b N p ≤ N := by
  unfold edP
  have h1 := rnL_in b (N - p) p
  have h2 := rnD_in b (N - p) p
  split
  · omega
  · split
    · omega
    · split
      · omega
      · split <;> omega
theorem tE_in {q : Nat} (hq : q ≤ N) : q ≤ tE b N q ∧ tE b N q ≤ N := by
  have h1 := tP_in (b := b) hq
  have h2 := edP_in (b := b) h1.2
  unfold tE
  omega
theorem rnL_lt {p : Nat} (hp : p < N) (h : isLt (b p)) : p < rnL b (N - p) p := by
  obtain ⟨f, hf⟩ : ∃ f, N - p = f + 1 := ⟨N - p - 1, by omega⟩
  rw [hf]
  unfold rnL
  rw [if_pos h]
  have := rnL_in b f (p + 1)
  omega
theorem rnD_lt {p : Nat} (hp : p < N) (h : isDg (b p)) : p < rnD b (N - p) p := by
  obtain ⟨f, hf⟩ : ∃ f, N - p = f + 1 := ⟨N - p - 1, by omega⟩
  rw [hf]
  unfold rnD
  rw [if_pos h]
  have := rnD_in b f (p + 1)
  omega
theorem ltW_len (p : Nat) : ∀ t, (ltW b p t).length = t
  | 0 => rfl
  | t + 1 => by rw [ltW, List.length_append, ltW_len p t]; rfl
theorem ltW_in {p e : Nat} (h : ∀ i, p ≤ i → i < e → isLt (b i)) : ∀ t, p + t ≤ e → ∀ c ∈ ltW b p t, 1 ≤ c ∧ c ≤ 26
  | 0, _, c, hc => absurd hc List.not_mem_nil
  | t + 1, ht, c, hc => by
    rw [ltW] at hc
    rcases List.mem_append.mp hc with z | z
    · exact ltW_in h t (by omega) c z
    · have hl := h (p + t) (by omega) (by omega)
      rw [List.mem_singleton.mp z]
      have h1 := hl.1
      have h2 := hl.2
      omega
theorem dgV_lt {p e : Nat} (h : ∀ i, p ≤ i → i < e → isDg (b i)) : ∀ t, p + t ≤ e → dgV b p t < 10 ^ t
  | 0, _ => by unfold dgV; decide
  | t + 1, ht => by
    have ih := dgV_lt h t (by omega)
    have hl := h (p + t) (by omega) (by omega)
    have h1 := hl.1
    have h2 := hl.2
    rw [dgV, Nat.pow_succ]
    omega
theorem tK_word {q : Nat} (hq : q ≤ N) (h : tK b N q = 1) : isW (tW b N q) ∧ q < tE b N q ∧ tP b N q < N := by
  have hp := tP_in (b := b) hq
  unfold tK kdP at h
  have hN : ¬ N ≤ tP b N q := fun z => by rw [if_pos z] at h; omega
  rw [if_neg hN] at h
  have h59 : ¬ b (tP b N q) = 59 := fun z => by rw [if_pos z] at h; omega
  rw [if_neg h59] at h
  by_cases hl : isLt (b (tP b N q))
  · rw [if_pos hl] at h
    have he : tE b N q = rnL b (N - tP b N q) (tP b N q) := by unfold tE edP; rw [if_neg hN, if_neg h59, if_pos hl]
    have hlt := rnL_lt (b := b) (N := N) (p := tP b N q) (by omega) hl
    have hin := rnL_in b (N - tP b N q) (tP b N q)
    have h7 : rnL b (N - tP b N q) (tP b N q) - tP b N q ≤ 7 := by
      rcases Nat.lt_or_ge 7 (rnL b (N - tP b N q) (tP b N q) - tP b N q) with z | z
      · rw [if_neg (by omega)] at h; omega
      · exact z
    refine ⟨⟨?_, ?_, ?_⟩, by omega, by omega⟩
    · unfold tW; rw [ltW_len, he]; omega
    · unfold tW; rw [ltW_len, he]; exact h7
    · unfold tW
      rw [he]
      exact ltW_in hin.2.2 _ (by omega)
  · rw [if_neg hl] at h
    split at h
    · split at h <;> omega
    · omega
theorem tK_num {q : Nat} (hq : q ≤ N) (h : tK b N q = 2) : tV b N q ≤ 9999 ∧ q < tE b N q := by
  have hp := tP_in (b := b) hq
  unfold tK kdP at h
  have hN : ¬ N ≤ tP b N q := fun z => by rw [if_pos z] at h; omega
  rw [if_neg hN] at h
  have h59 : ¬ b (tP b N q) = 59 := fun z => by rw [if_pos z] at h; omega
  rw [if_neg h59] at h
  have hl : ¬ isLt (b (tP b N q)) := fun z => by rw [if_pos z] at h; split at h <;> omega
  rw [if_neg hl] at h
  by_cases hd : isDg (b (tP b N q))
  · rw [if_pos hd] at h
    have he : tE b N q = rnD b (N - tP b N q) (tP b N q) := by unfold tE edP; rw [if_neg hN, if_neg h59, if_neg hl, if_pos hd]
    have hlt := rnD_lt (b := b) (N := N) (p := tP b N q) (by omega) hd
    have hin := rnD_in b (N - tP b N q) (tP b N q)
    have h4 : rnD b (N - tP b N q) (tP b N q) - tP b N q ≤ 4 := by
      rcases Nat.lt_or_ge 4 (rnD b (N - tP b N q) (tP b N q) - tP b N q) with z | z
      · rw [if_neg (by omega)] at h; omega
      · exact z
    have hv := dgV_lt hin.2.2 (rnD b (N - tP b N q) (tP b N q) - tP b N q) (by omega)
    have h10 : 10 ^ (rnD b (N - tP b N q) (tP b N q) - tP b N q) ≤ 10 ^ 4 := Nat.pow_le_pow_right (by decide) h4
    refine ⟨?_, by omega⟩
    unfold tV
    rw [he]
    omega
  · rw [if_neg hd] at h; omega
theorem gxN_in (w : List Nat) : ∀ t, gxN w t = 30 ∨ (gxN w t < t ∧ w = gramW.getD (gxN w t) [])
  | 0 => Or.inl rfl
  | t + 1 => by
    unfold gxN
    by_cases h : w = gramW.getD t []
    · rw [if_pos h]; exact Or.inr ⟨by omega, h⟩
    · rw [if_neg h]
      rcases gxN_in w t with z | z
      · exact Or.inl z
      · exact Or.inr ⟨by omega, z.2⟩
theorem gx_gram : ∀ i, i < 30 → gx (gramW.getD i []) = i := by decide +kernel
theorem gx_iff {w : List Nat} {i : Nat} (hi : i < 30) : gx w = i ↔ w = gramW.getD i [] := by
  constructor
  · intro h
    rcases gxN_in w 30 with z | z
    · have : gx w = 30 := z
      omega
    · have e : gxN w 30 = i := h
      rw [e] at z
      exact z.2
  · intro h
    rw [h]; exact gx_gram i hi
theorem gx_le (w : List Nat) : gx w ≤ 30 := by
  rcases gxN_in w 30 with z | z
  · have : gx w = 30 := z
    omega
  · have : gx w = gxN w 30 := rfl
    omega
theorem tG_le (q : Nat) : tG b N q ≤ 30 := by
  unfold tG
  split
  · exact gx_le _
  · exact Nat.le_refl _
theorem gram_w : ∀ i, i < 30 → ∀ c ∈ gramW.getD i [], 1 ≤ c ∧ c ≤ 26 := by decide +kernel
theorem gram_l : ∀ i, i < 30 → (gramW.getD i []).length ≤ 7 := by decide +kernel
theorem ixW_eq {g x : Nat} (hg : g ≤ 30) (hx : x < 30) : (ixW g = nI x) = (g = x) := by
  unfold ixW
  by_cases h : g = 30
  · rw [if_pos h, nM1' (by omega)]; exact (eq_false (by omega)).symm
  · rw [if_neg h]; exact propext (nI_eq (by omega) (by omega))
theorem ixW_M1 {g : Nat} (hg : g ≤ 30) : (ixW g = M1) = (g = 30) := by
  unfold ixW
  by_cases h : g = 30
  · rw [if_pos h]; simp [h]
  · rw [if_neg h, nM1 (by omega)]; simp [h]
end TF
