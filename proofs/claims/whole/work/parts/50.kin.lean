/-! ===== 50: kin: both ways lead to the same ===== -/
def conn (T : Nat → Nat) (p q : Nat) : Prop := ∀ S : Nat → Prop, S p → (∀ x y, S x → told T x y → S y) → S q
theorem conn.refl (T : Nat → Nat) (p : Nat) : conn T p p := fun _ h _ => h
theorem conn.trans {T : Nat → Nat} {p q r : Nat} (h : conn T p q) (h' : conn T q r) : conn T p r := fun S hp hs => h' S (h S hp hs) hs
theorem conn.told {T : Nat → Nat} {p q : Nat} (h : told T p q) : conn T p q := fun _ hp hs => hs p q hp h
theorem told.symm {T : Nat → Nat} {p q : Nat} (h : told T p q) : told T q p := by
  obtain ⟨k, hk, h | h⟩ := h
  · exact ⟨k, hk, Or.inr h⟩
  · exact ⟨k, hk, Or.inl h⟩
theorem told_pair {T : Nat → Nat} {k : Nat} (hk : k < T 11) : told T (T (12 + 2 * k)) (T (12 + 2 * k + 1)) := ⟨k, hk, Or.inl ⟨rfl, by rw [show 13 + 2 * k = 12 + 2 * k + 1 by omega]⟩⟩
theorem tb_2p {a i : Nat} : (2 ^ a).testBit i = decide (a = i) := Nat.testBit_two_pow
theorem tb_both {a b i : Nat} : (2 ^ a ||| 2 ^ b).testBit i = true ↔ i = a ∨ i = b := by
  rw [Nat.testBit_or, tb_2p, tb_2p]
  simp only [Bool.or_eq_true, decide_eq_true_eq]
  omega
theorem and_ne {m : Nat} {a b : Nat} : m &&& (2 ^ a ||| 2 ^ b) = 0 ↔ m.testBit a = false ∧ m.testBit b = false := by
  constructor
  · intro h
    have key : ∀ i, (m &&& (2 ^ a ||| 2 ^ b)).testBit i = false := fun i => by rw [h]; exact Nat.zero_testBit i
    have k1 := key a
    have k2 := key b
    rw [Nat.testBit_and] at k1 k2
    have t1 : (2 ^ a ||| 2 ^ b).testBit a = true := tb_both.mpr (Or.inl rfl)
    have t2 : (2 ^ a ||| 2 ^ b).testBit b = true := tb_both.mpr (Or.inr rfl)
    rw [t1, Bool.and_true] at k1
    rw [t2, Bool.and_true] at k2
    exact ⟨k1, k2⟩
  · rintro ⟨h1, h2⟩
    apply Nat.eq_of_testBit_eq
    intro i
    rw [Nat.testBit_and, Nat.zero_testBit]
    by_cases hi : (2 ^ a ||| 2 ^ b).testBit i = true
    · rcases tb_both.mp hi with rfl | rfl
      · rw [h1, Bool.false_and]
      · rw [h2, Bool.false_and]
    · rw [Bool.not_eq_true] at hi
      rw [hi, Bool.and_false]
section KN
variable {T : Nat → Nat}
theorem kinSt_tb (k m i : Nat) : (kinSt T k m).testBit i = true ↔ m.testBit i = true ∨ ((m.testBit (T (12 + 2 * k)) = true ∨ m.testBit (T (12 + 2 * k + 1)) = true) ∧ (i = T (12 + 2 * k) ∨ i = T (12 + 2 * k + 1))) := by
  unfold kinSt
  split
  · rename_i h
    obtain ⟨h1, h2⟩ := and_ne.mp h
    rw [h1, h2]
    simp
  · rename_i h
    have h' : m.testBit (T (12 + 2 * k)) = true ∨ m.testBit (T (12 + 2 * k + 1)) = true := by
      cases h1 : m.testBit (T (12 + 2 * k))
      · cases h2 : m.testBit (T (12 + 2 * k + 1))
        · exact absurd (and_ne.mpr ⟨h1, h2⟩) h
        · exact Or.inr rfl
      · exact Or.inl rfl
    rw [Nat.testBit_or, Bool.or_eq_true, tb_both]
    constructor
    · rintro (z | z)
      · exact Or.inl z
      · exact Or.inr ⟨h', z⟩
    · rintro (z | z)
      · exact Or.inl z
      · exact Or.inr z.2
theorem kinRd_sub (m : Nat) {i : Nat} (h : m.testBit i = true) : ∀ k, (kinRd T m k).testBit i = true
  | 0 => h
  | k + 1 => (kinSt_tb k _ i).mpr (Or.inl (kinRd_sub m h k))
theorem kinRd_sound {p : Nat} {m : Nat} (h : ∀ i, m.testBit i = true → conn T p i) : ∀ k, k ≤ T 11 → ∀ i, (kinRd T m k).testBit i = true → conn T p i
  | 0, _, i, hi => h i hi
  | k + 1, hk, i, hi => by
    have ih := kinRd_sound h k (by omega)
    have ht := told_pair (T := T) (k := k) (by omega)
    rcases (kinSt_tb k _ i).mp hi with z | ⟨z1 | z1, rfl | rfl⟩
    · exact ih i z
    · exact ih _ z1
    · exact (ih _ z1).trans (conn.told ht)
    · exact (ih _ z1).trans (conn.told ht.symm)
    · exact ih _ z1
theorem kinS_sound {p : Nat} : ∀ r i, (kinS T p r).testBit i = true → conn T p i
  | 0, i, h => by
    have : (2 ^ p).testBit i = true := h
    rw [tb_2p, decide_eq_true_eq] at this
    rw [this]; exact conn.refl T i
  | r + 1, i, h => kinRd_sound (kinS_sound r) (T 11) (Nat.le_refl _) i h
/-- a round that changes nothing: the set is closed -/
theorem kinRd_fix {m : Nat} (h : kinRd T m (T 11) = m) : ∀ k, k ≤ T 11 → kinRd T m k = m := by
  intro k hk
  apply Nat.eq_of_testBit_eq
  intro i
  cases hi : m.testBit i
  · cases hj : (kinRd T m k).testBit i
    · rfl
    · exfalso
      have : ∀ d, (kinRd T m (k + d)).testBit i = true := by
        intro d
        induction d with
        | zero => exact hj
        | succ d ih => exact (kinSt_tb (k + d) _ i).mpr (Or.inl ih)
      have h2 := this (T 11 - k)
      rw [show k + (T 11 - k) = T 11 by omega, h, hi] at h2
      exact absurd h2 (by decide)
  · exact kinRd_sub m hi k
theorem fix_closed {m : Nat} (h : kinRd T m (T 11) = m) {x y : Nat} (hx : m.testBit x = true) (ht : told T x y) : m.testBit y = true := by
  obtain ⟨k, hk, hp⟩ := ht
  have h1 := kinRd_fix h k (by omega)
  have h2 := kinRd_fix h (k + 1) (by omega)
  have h3 : kinSt T k (kinRd T m k) = m := h2
  rw [h1] at h3
  have e : 13 + 2 * k = 12 + 2 * k + 1 := by omega
  rw [e] at hp
  rw [← h3]
  rcases hp with ⟨rfl, rfl⟩ | ⟨rfl, rfl⟩
  · exact (kinSt_tb k m _).mpr (Or.inr ⟨Or.inl hx, Or.inr rfl⟩)
  · exact (kinSt_tb k m _).mpr (Or.inr ⟨Or.inr hx, Or.inl rfl⟩)
/-- how many of six bits -/
def pop (m : Nat) : Nat := (if m.testBit 0 then 1 else 0) + (if m.testBit 1 then 1 else 0) + (if m.testBit 2 then 1 else 0) + (if m.testBit 3 then 1 else 0) + (if m.testBit 4 then 1 else 0) + (if m.testBit 5 then 1 else 0)
theorem pop_lt {m m' : Nat} (hm : m < 64) (hm' : m' < 64) (hs : ∀ i, m.testBit i = true → m'.testBit i = true) (hn : m' ≠ m) : pop m < pop m' := by
  have h0 := hs 0
  have h1 := hs 1
  have h2 := hs 2
  have h3 := hs 3
  have h4 := hs 4
  have h5 := hs 5
  have hd : ¬ (m'.testBit 0 = m.testBit 0 ∧ m'.testBit 1 = m.testBit 1 ∧ m'.testBit 2 = m.testBit 2 ∧ m'.testBit 3 = m.testBit 3 ∧ m'.testBit 4 = m.testBit 4 ∧ m'.testBit 5 = m.testBit 5) := by
    rintro ⟨a0, a1, a2, a3, a4, a5⟩
    apply hn
    apply Nat.eq_of_testBit_eq
    intro i
    by_cases hi : i < 6
    · rcases (by omega : i = 0 ∨ i = 1 ∨ i = 2 ∨ i = 3 ∨ i = 4 ∨ i = 5) with rfl | rfl | rfl | rfl | rfl | rfl <;> assumption
    · have hp : 2 ^ 6 ≤ 2 ^ i := Nat.pow_le_pow_right (by decide) (by omega)
      rw [Nat.testBit_lt_two_pow (by omega), Nat.testBit_lt_two_pow (by omega)]
  unfold pop
  revert h0 h1 h2 h3 h4 h5 hd
  generalize m.testBit 0 = a0
  generalize m.testBit 1 = a1
  generalize m.testBit 2 = a2
  generalize m.testBit 3 = a3
  generalize m.testBit 4 = a4
  generalize m.testBit 5 = a5
  generalize m'.testBit 0 = c0
  generalize m'.testBit 1 = c1
  generalize m'.testBit 2 = c2
  generalize m'.testBit 3 = c3
  generalize m'.testBit 4 = c4
  generalize m'.testBit 5 = c5
  clear hs hn hm hm'
  revert a0 a1 a2 a3 a4 a5 c0 c1 c2 c3 c4 c5
  decide +kernel
theorem pop_le (m : Nat) : pop m ≤ 6 := by
  unfold pop
  repeat' split
  all_goals omega
theorem pop_pos {m i : Nat} (hm : m < 64) (h : m.testBit i = true) : 1 ≤ pop m := by
  have hi : i < 6 := by
    apply Decidable.byContradiction
    intro hc
    have hp : 2 ^ 6 ≤ 2 ^ i := Nat.pow_le_pow_right (by decide) (by omega)
    rw [Nat.testBit_lt_two_pow (by omega)] at h
    exact absurd h (by decide)
  unfold pop
  rcases (by omega : i = 0 ∨ i = 1 ∨ i = 2 ∨ i = 3 ∨ i = 4 ∨ i = 5) with rfl | rfl | rfl | rfl | rfl | rfl <;> rw [if_pos h] <;> omega
theorem kinS_self (p : Nat) : ∀ r, (kinS T p r).testBit p = true
  | 0 => by
    show (2 ^ p).testBit p = true
    rw [tb_2p]; simp
  | r + 1 => kinRd_sub _ (kinS_self p r) _
theorem kinS_fix (hT : VT T) {p : Nat} (hp : p < 6) : kinRd T (kinS T p 6) (T 11) = kinS T p 6 := by
  have key : ∀ r, kinRd T (kinS T p r) (T 11) = kinS T p r ∨ r + 1 ≤ pop (kinS T p r) := by
    intro r
    induction r with
    | zero => exact Or.inr (pop_pos (kinS_lt hT hp 0) (kinS_self p 0))
    | succ r ih =>
      rcases ih with h | h
      · left
        show kinRd T (kinRd T (kinS T p r) (T 11)) (T 11) = kinRd T (kinS T p r) (T 11)
        rw [h, h]
      · by_cases hf : kinRd T (kinS T p r) (T 11) = kinS T p r
        · left
          show kinRd T (kinRd T (kinS T p r) (T 11)) (T 11) = kinRd T (kinS T p r) (T 11)
          rw [hf, hf]
        · right
          have := pop_lt (kinS_lt hT hp r) (kinS_lt hT hp (r + 1)) (fun i hi => kinRd_sub _ hi (T 11)) hf
          omega
  rcases key 6 with h | h
  · exact h
  · have := pop_le (kinS T p 6)
    omega
theorem akin_conn (hT : VT T) {p q : Nat} (hp : p < 6) : akin T p q ↔ conn T p q :=
  ⟨kinS_sound 6 q, fun h => h (fun x => (kinS T p 6).testBit x = true) (kinS_self p 6) (fun _ _ hx ht => fix_closed (kinS_fix hT hp) hx ht)⟩
/-- the rows of kin, as the pass over a party between makes them -/
def wP (n b : Nat) (B : Nat → Nat) : Nat → Nat := fun p => if p < n ∧ (B p).testBit b = true then B p ||| B b else B p
def wB (n : Nat) (B : Nat → Nat) : Nat → Nat → Nat
  | 0 => B
  | b + 1 => wP n b (wB n B b)
theorem wP_tb {n b : Nat} {B : Nat → Nat} {p : Nat} (hp : p < n) (q : Nat) : (wP n b B p).testBit q = true ↔ (B p).testBit q = true ∨ ((B p).testBit b = true ∧ (B b).testBit q = true) := by
  unfold wP
  by_cases h : (B p).testBit b = true
  · rw [if_pos ⟨hp, h⟩, Nat.testBit_or, Bool.or_eq_true, h]
    simp
  · rw [if_neg (fun z => h z.2)]
    simp [h]
theorem wB_sub {n : Nat} {B : Nat → Nat} {p q : Nat} (hp : p < n) (h : (B p).testBit q = true) : ∀ b, (wB n B b p).testBit q = true
  | 0 => h
  | b + 1 => (wP_tb hp q).mpr (Or.inl (wB_sub hp h b))
theorem wB_trans {n : Nat} {B : Nat → Nat} : ∀ b, b ≤ n → ∀ k p q, k < b → p < n → (wB n B b p).testBit k = true → (wB n B b k).testBit q = true → (wB n B b p).testBit q = true
  | 0, _, k, _, _, hk, _, _, _ => absurd hk (Nat.not_lt_zero _)
  | b + 1, hb, k, p, q, hk, hp, h1, h2 => by
    have ih := wB_trans (n := n) (B := B) b (by omega)
    have hbn : b < n := by omega
    have hkn : k < n := by omega
    have h1' := (wP_tb hp k).mp h1
    have h2' := (wP_tb hkn q).mp h2
    apply (wP_tb hp q).mpr
    by_cases hkb : k = b
    · subst hkb
      have e1 : (wB n B k p).testBit k = true := by rcases h1' with z | z; exact z; exact z.1
      have e2 : (wB n B k k).testBit q = true := by rcases h2' with z | z; exact z; exact z.2
      exact Or.inr ⟨e1, e2⟩
    · have hkb' : k < b := by omega
      rcases h1' with a | ⟨a, a'⟩
      · rcases h2' with c | ⟨c, c'⟩
        · exact Or.inl (ih k p q hkb' hp a c)
        · exact Or.inr ⟨ih k p b hkb' hp a c, c'⟩
      · rcases h2' with c | ⟨c, c'⟩
        · exact Or.inr ⟨a, ih k b q hkb' hbn a' c⟩
        · exact Or.inr ⟨a, c'⟩
theorem wB_sound {n : Nat} {B : Nat → Nat} (h : ∀ p q, p < n → (B p).testBit q = true → conn T p q) : ∀ b, b ≤ n → ∀ p q, p < n → (wB n B b p).testBit q = true → conn T p q
  | 0, _, p, q, hp, hq => h p q hp hq
  | b + 1, hb, p, q, hp, hq => by
    have ih := wB_sound (n := n) h b (by omega)
    rcases (wP_tb hp q).mp hq with z | ⟨z, z'⟩
    · exact ih p q hp z
    · exact (ih p b hp z).trans (ih b q (by omega) z')
theorem told_lt (hT : VT T) {x y : Nat} (h : told T x y) : x < T 0 ∧ y < T 0 := by
  obtain ⟨k, hk, h⟩ := h
  have h1 := hT.2.2.1 k hk
  rcases h with ⟨rfl, rfl⟩ | ⟨rfl, rfl⟩
  · exact ⟨h1.1, h1.2.1⟩
  · exact ⟨h1.2.1, h1.1⟩
theorem wB_conn (hT : VT T) {B : Nat → Nat} (h : ∀ p q, p < T 0 → ((B p).testBit q = true ↔ told T p q ∨ q = p)) {p q : Nat} (hp : p < T 0) : (wB (T 0) B (T 0) p).testBit q = true ↔ conn T p q := by
  constructor
  · intro hq
    refine wB_sound (fun p q hp hq => ?_) (T 0) (Nat.le_refl _) p q hp hq
    rcases (h p q hp).mp hq with z | rfl
    · exact conn.told z
    · exact conn.refl T _
  · intro hq
    have hself : (wB (T 0) B (T 0) p).testBit p = true := wB_sub hp ((h p p hp).mpr (Or.inr rfl)) _
    have := hq (fun x => x < T 0 ∧ (wB (T 0) B (T 0) p).testBit x = true) ⟨hp, hself⟩ (fun x y hx ht => by
      obtain ⟨hx1, hy1⟩ := told_lt hT ht
      exact ⟨hy1, wB_trans (T 0) (Nat.le_refl _) x p y hx1 hp hx.2 (wB_sub hx1 ((h x y hx1).mpr (Or.inl ht)) _)⟩)
    exact this.2
end KN
