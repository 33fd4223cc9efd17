/-! ===== 42: what both objects tell: T : Nat → Nat, the reference's row of numbers ===== -/
/-- two parties are told as kin -/
def told (T : Nat → Nat) (p q : Nat) : Prop := ∃ k, k < T 11 ∧ ((T (12 + 2 * k) = p ∧ T (13 + 2 * k) = q) ∨ (T (12 + 2 * k) = q ∧ T (13 + 2 * k) = p))
/-- bounds of what is told -/
def VT (T : Nat → Nat) : Prop :=
  (T 0 ≤ 6 ∧ T 1 ≤ 6 ∧ T 2 ≤ 4 ∧ T 3 ≤ 10 ∧ T 4 ≤ 12 ∧ T 5 ≤ 4) ∧
  (T 6 ≤ 50 ∧ 1 ≤ T 7 ∧ T 7 ≤ 999 ∧ T 8 ≤ 90 ∧ T 9 ≤ 99 ∧ T 10 ≤ 1 ∧ T 11 ≤ 6) ∧
  (∀ k, k < T 11 → T (12 + 2 * k) < T 0 ∧ T (13 + 2 * k) < T 0 ∧ T (12 + 2 * k) ≠ T (13 + 2 * k)) ∧
  (∀ k l, k < l → l < T 11 → ¬ ((T (12 + 2 * k) = T (12 + 2 * l) ∧ T (13 + 2 * k) = T (13 + 2 * l)) ∨ (T (12 + 2 * k) = T (13 + 2 * l) ∧ T (13 + 2 * k) = T (12 + 2 * l)))) ∧
  (∀ a, a < T 2 → 1 ≤ T (48 + 2 * a)) ∧
  (∀ s, s < T 3 → T (56 + 12 * s) < T 1 ∧ T (57 + 12 * s) < T 0 ∧ T (58 + 12 * s) < T 0 ∧ 1 ≤ T (59 + 12 * s) ∧ 1 ≤ T (60 + 12 * s) ∧ T (61 + 12 * s) ≤ 999 ∧ T (62 + 12 * s) ≤ 1 ∧ T (63 + 12 * s) ≤ 99 ∧ T (67 + 12 * s) < 16) ∧
  (∀ r, r < T 4 → T (176 + 4 * r) < T 1 ∧ 1 ≤ T (177 + 4 * r) ∧ 1 ≤ T (178 + 4 * r) ∧ T (179 + 4 * r) ≤ 999) ∧
  (∀ g, g < T 1 → T (27 + 4 * g) ≤ 99) ∧ (∀ b, b < T 5 → T (225 + 2 * b) ≤ 90) ∧
  ∀ k, T k ≤ 9999
/-- the class's world at cell b tells T -/
def WR (I : Nat → Nat → Int32) (b : Nat) (T : Nat → Nat) : Prop :=
  (∀ k, k < 11 → I (b + 1) k = nI (T k)) ∧ I (b + 1) 13 = nI (T 11) ∧
  (∀ g j, g < T 1 → j < 4 → I (b + 4 + g) j = nI (T (24 + 4 * g + j))) ∧
  (∀ a j, a < T 2 → j < 2 → I (b + 11 + a) j = nI (T (48 + 2 * a + j))) ∧
  (∀ s j, s < T 3 → j < 12 → I (b + 16 + s) j = nI (T (56 + 12 * s + j))) ∧
  (∀ r j, r < T 4 → j < 4 → I (b + 28 + r) j = nI (T (176 + 4 * r + j))) ∧
  (∀ q j, q < T 5 → j < 2 → I (b + 41 + q) j = nI (T (224 + 2 * q + j))) ∧
  ∀ p, p < 6 → ∃ m : Nat, m < 64 ∧ I (b + 2) p = nI m ∧ ∀ q, q < 6 → (m.testBit q = true ↔ told T p q)
/-- the reference's row at places d and on of cell k tells T -/
def NR (I : Nat → Nat → Int32) (k d : Nat) (T : Nat → Nat) : Prop := ∀ j, j < 232 → I k (d + j) = nI (T j)
/-- the tapes -/
def TP (I : Nat → Nat → Int32) : Prop := ∃ p : Nat, p ≤ 900 ∧ I 1 1 = nI p ∧ I 224 8 = nI p ∧ ∀ k, k < p → I 2 k = I 230 k ∧ (I 2 k).toInt8.toInt32 = I 2 k
/-- a word of at most seven letters, as the class and as the reference number it -/
def enc (b : Nat) (w : List Nat) : Nat := w.foldl (fun v c => v * b + c) 0
def isW (w : List Nat) : Prop := 1 ≤ w.length ∧ w.length ≤ 7 ∧ ∀ c ∈ w, 1 ≤ c ∧ c ≤ 26
def NM (J : Nat → Nat → Int64) (T : Nat → Nat) : Prop := ∀ s, s < T 3 → ∃ w, isW w ∧ J 29 s = lN (enc 27 w) ∧ J 234 s = lN (enc 32 w)
/-- a keep -/
def KP (I : Nat → Nat → Int32) (J : Nat → Nat → Int64) (T : Nat → Nat) (k b : Nat) : Prop := (∃ z : Nat, z ≤ 1 ∧ I 229 k = nI z ∧ (z = 1 ↔ (I 0 10 >>> (nI k &&& 31)) &&& 1 ≠ 0)) ∧ (I 229 k = 1 → ∃ K, VT K ∧ K 3 = T 3 ∧ WR I b K ∧ NR I 228 (232 * k) K ∧ ∀ s, s < T 3 → J (b + 26) s = J 29 s)
/-- the same is told -/
def same (T U : Nat → Nat) : Prop := (∀ k, k < 12 → T k = U k) ∧ (∀ g j, g < T 1 → j < 4 → T (24 + 4 * g + j) = U (24 + 4 * g + j)) ∧ (∀ a j, a < T 2 → j < 2 → T (48 + 2 * a + j) = U (48 + 2 * a + j)) ∧ (∀ s j, s < T 3 → j < 12 → T (56 + 12 * s + j) = U (56 + 12 * s + j)) ∧ (∀ r j, r < T 4 → j < 4 → T (176 + 4 * r + j) = U (176 + 4 * r + j)) ∧ (∀ q j, q < T 5 → j < 2 → T (224 + 2 * q + j) = U (224 + 2 * q + j)) ∧ ∀ p q, told T p q ↔ told U p q
def uT (T : Nat → Nat) (k x : Nat) : Nat → Nat := fun j => if j = k then x else T j
/-- the act in the row a (kind, one, other, was) leads from U to T: taking it back leads from T to U -/
def actR (a : Nat → Int32) (T U : Nat → Nat) : Prop :=
  (∃ s v, a 0 = 0 ∧ a 1 = nI s ∧ a 3 = nI v ∧ s < T 3 ∧ same (uT T (60 + 12 * s) v) U) ∨
  (∃ s v, a 0 = 1 ∧ a 1 = nI s ∧ a 3 = nI v ∧ s < T 3 ∧ same (uT T (62 + 12 * s) v) U) ∨
  (∃ p q v, a 0 = 2 ∧ a 1 = nI p ∧ a 2 = nI q ∧ a 3 = nI v ∧ p < T 0 ∧ q < T 0 ∧ p ≠ q ∧ v ≤ 1 ∧ (v = 1 ↔ ¬ told T p q) ∧ U 11 + (1 - v) = T 11 + v ∧ (∀ k, k < 11 → T k = U k) ∧ (∀ k, 24 ≤ k → T k = U k) ∧ ∀ x y, (told U x y ↔ if (x = p ∧ y = q) ∨ (x = q ∧ y = p) then v = 1 else told T x y)) ∨
  (∃ w v, a 0 = 3 ∧ a 1 = nI w ∧ a 3 = nI v ∧ w < 4 ∧ same (uT T (6 + w) v) U) ∨
  (∃ v, a 0 = 4 ∧ a 3 = nI v ∧ same (uT T 10 v) U) ∨
  (∃ v, a 0 = 5 ∧ a 3 = nI v ∧ v ≤ T 4 ∧ same (uT T 4 v) U) ∨
  (∃ s v, a 0 = 6 ∧ a 1 = nI s ∧ a 3 = nI v ∧ s < T 2 ∧ same (uT T (49 + 2 * s) v) U) ∨
  (∃ s v, a 0 = 7 ∧ a 1 = nI s ∧ a 3 = nI v ∧ s < T 5 ∧ same (uT T (225 + 2 * s) v) U)
/-- the acts that can be taken back: P 0 is what is told now, P 1 what was told ahead of the latest act, and on -/
def ACT (I : Nat → Nat → Int32) (T : Nat → Nat) : Prop := ∃ (u nx : Nat) (P : Nat → Nat → Nat), u ≤ 12 ∧ nx < 12 ∧ I 118 2 = nI u ∧ I 118 1 = nI nx ∧ I 224 6 = nI u ∧ P 0 = T ∧ ∀ j, j < u → VT (P (j + 1)) ∧ P (j + 1) 3 = T 3 ∧ NR I 227 (232 * (u - 1 - j)) (P (j + 1)) ∧ actR (I (120 + (nx + 23 - j) % 12)) (P j) (P (j + 1))
/-- the words of the grammar, in the class's order -/
def gramW : List (List Nat) := [[16, 1, 18, 20, 25], [11, 9, 14], [7, 15, 15, 4], [1, 19, 19, 9, 19, 20], [19, 1, 12, 5], [18, 5, 19, 15, 12, 4], [13, 1, 4, 5], [2, 1, 14, 4], [14, 5, 1, 18], [23, 9, 14, 4, 15, 23], [13, 1, 18, 7, 9, 14], [4, 21, 20, 25], [7, 18, 15, 21, 16], [12, 1, 14, 4], [23, 15, 18, 20, 8], [6, 9, 18, 19, 20], [2, 25], [16, 9, 5, 3, 5, 19], [16, 18, 9, 3, 5], [4, 1, 25], [3, 15, 19, 20], [16, 18, 15, 6, 9, 20], [6, 18, 15, 13], [12, 5, 19, 19], [2, 15, 21, 14, 4], [18, 15, 25, 1, 12, 20, 25], [6, 5, 5], [16, 1, 3, 11, 9, 14, 7], [6, 18, 5, 9, 7, 8, 20], [21, 19, 5, 19]]
def GR (J : Nat → Nat → Int64) : Prop := ∀ i, i < 30 → J 99 i = lN (enc 27 (gramW.getD i []))
def INV (I : Nat → Nat → Int32) (J : Nat → Nat → Int64) : Prop := ∃ T : Nat → Nat, VT T ∧ NR I 225 0 T ∧ WR I 3 T ∧ TP I ∧ NM J T ∧ KP I J T 0 134 ∧ KP I J T 1 179 ∧ ACT I T ∧ GR J ∧ I 224 23 = -1
def Inv (h : PH) : Prop := ∃ n I J, h = mk n I J ∧ INV I J
/-- the numbers that INV speaks of -/
def relI (a b : Nat) : Prop := (a = 0 ∧ b = 10) ∨ (a = 1 ∧ b = 1) ∨ a = 2 ∨ (3 ≤ a ∧ a ≤ 47) ∨ (118 ≤ a ∧ a ≤ 131) ∨ (134 ≤ a ∧ a ≤ 223) ∨ (a = 224 ∧ (b = 6 ∨ b = 8 ∨ b = 23)) ∨ a = 225 ∨ a = 227 ∨ a = 228 ∨ a = 229 ∨ a = 230
def relJ (a : Nat) : Prop := a = 29 ∨ a = 160 ∨ a = 205 ∨ a = 99 ∨ a = 234
section SC
variable {I I' : Nat → Nat → Int32} {J J' : Nat → Nat → Int64} {T : Nat → Nat}
theorem WR.scr {b : Nat} (hT : VT T) (h : WR I b T) (hI : ∀ a c, b ≤ a → a ≤ b + 44 → I' a c = I a c) : WR I' b T := by
  obtain ⟨⟨v0, v1, v2, v3, v4, v5⟩, -⟩ := hT
  obtain ⟨h1, h2, h3, h4, h5, h6, h7, h8⟩ := h
  refine ⟨fun k hk => ?_, ?_, fun g j hg hj => ?_, fun a j ha hj => ?_, fun s j hs hj => ?_, fun r j hr hj => ?_, fun q j hq hj => ?_, fun p hp => ?_⟩
  · rw [hI _ _ (by omega) (by omega)]; exact h1 k hk
  · rw [hI _ _ (by omega) (by omega)]; exact h2
  · rw [hI _ _ (by omega) (by omega)]; exact h3 g j hg hj
  · rw [hI _ _ (by omega) (by omega)]; exact h4 a j ha hj
  · rw [hI _ _ (by omega) (by omega)]; exact h5 s j hs hj
  · rw [hI _ _ (by omega) (by omega)]; exact h6 r j hr hj
  · rw [hI _ _ (by omega) (by omega)]; exact h7 q j hq hj
  · obtain ⟨m, m1, m2, m3⟩ := h8 p hp
    exact ⟨m, m1, by rw [hI _ _ (by omega) (by omega)]; exact m2, m3⟩
theorem KP.scr {k b : Nat} (hb : b = 134 ∨ b = 179) (h : KP I J T k b) (hI : ∀ a c, relI a c → I' a c = I a c) (hJ : ∀ a c, relJ a → J' a c = J a c) : KP I' J' T k b := by
  have e1 : I' 229 k = I 229 k := hI _ _ (by unfold relI; omega)
  have e2 : I' 0 10 = I 0 10 := hI _ _ (by unfold relI; omega)
  refine ⟨by rw [e1, e2]; exact h.1, fun hz => ?_⟩
  rw [e1] at hz
  obtain ⟨K, k1, k2, k3, k4, k5⟩ := h.2 hz
  refine ⟨K, k1, k2, k3.scr k1 (fun a c h1 h2 => hI _ _ (by unfold relI; omega)), fun j hj => by rw [hI _ _ (by unfold relI; omega)]; exact k4 j hj, fun s hs => ?_⟩
  rw [hJ _ _ (by unfold relJ; omega), hJ _ _ (by unfold relJ; omega)]
  exact k5 s hs
theorem INV.scr (h : INV I J) (hI : ∀ a c, relI a c → I' a c = I a c) (hJ : ∀ a c, relJ a → J' a c = J a c) : INV I' J' := by
  obtain ⟨T, hT, hN, hW, ⟨p, p1, p2, p3, p4⟩, hM, hK0, hK1, ⟨u, nx, P, u1, u2, u3, u4, u5, u6, u7⟩, hG, hg⟩ := h
  refine ⟨T, hT, fun j hj => by rw [hI _ _ (by unfold relI; omega)]; exact hN j hj, hW.scr hT (fun a c h1 h2 => hI _ _ (by unfold relI; omega)), ⟨p, p1, by rw [hI _ _ (by unfold relI; omega)]; exact p2, by rw [hI _ _ (by unfold relI; omega)]; exact p3, fun k hk => by rw [hI 2 k (by unfold relI; omega), hI 230 k (by unfold relI; omega)]; exact p4 k hk⟩, fun s hs => by rw [hJ _ _ (by unfold relJ; omega), hJ _ _ (by unfold relJ; omega)]; exact hM s hs, hK0.scr (Or.inl rfl) hI hJ, hK1.scr (Or.inr rfl) hI hJ, ⟨u, nx, P, u1, u2, by rw [hI _ _ (by unfold relI; omega)]; exact u3, by rw [hI _ _ (by unfold relI; omega)]; exact u4, by rw [hI _ _ (by unfold relI; omega)]; exact u5, u6, fun j hj => ?_⟩, fun i hi => by rw [hJ _ _ (by unfold relJ; omega)]; exact hG i hi, by rw [hI _ _ (by unfold relI; omega)]; exact hg⟩
  obtain ⟨w1, w2, w3, w4⟩ := u7 j hj
  refine ⟨w1, w2, fun k hk => by rw [hI _ _ (by unfold relI; omega)]; exact w3 k hk, ?_⟩
  have hm : (nx + 23 - j) % 12 < 12 := Nat.mod_lt _ (by decide)
  rw [show I' (120 + (nx + 23 - j) % 12) = I (120 + (nx + 23 - j) % 12) from funext fun c => hI _ _ (by unfold relI; omega)]
  exact w4
end SC
