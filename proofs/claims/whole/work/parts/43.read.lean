/-! ===== 43: reads of what is told ===== -/
theorem rz0 {α : Type} (x : α) : rz (0 : Int32) x = some (0, x) := if_pos (Or.inl rfl)
theorem rz1 {α : Type} (x : α) : rz (1 : Int32) x = some (1, x) := if_pos (Or.inr rfl)
theorem b2_some {α β : Type} (x : α) (h : PH) (f : α → PH → Option β) : b2 (some (x, h)) f = f x h := rfl
/-- an index below t -/
def ixB (x : Int32) (t : Nat) : Prop := 0 ≤ x.toInt ∧ x.toInt < (t : Int)
theorem lt0 {x : Int32} : x < 0 ↔ ¬ 0 ≤ x.toInt := by
  rw [Int32.lt_iff_toInt_lt]
  show x.toInt < 0 ↔ _
  omega
theorem nI_le_x {t : Nat} (ht : t < 2 ^ 31) {x : Int32} : nI t ≤ x ↔ ¬ x.toInt < (t : Int) := by
  rw [Int32.le_iff_toInt_le, nI_toInt ht]
  omega
theorem ixB_of {x : Int32} {t : Nat} (ht : t < 2 ^ 31) (h : ixB x t) : ∃ i, i < t ∧ x = nI i := vp_in_of (vp_in_iff.mpr h) ht
theorem ixB_nI {i t : Nat} (h : i < t) (ht : t < 2 ^ 31) : ixB (nI i) t := vp_in_iff.mp (vp_in_nI h ht)
theorem cl_nI {i : Nat} (h : i < 2 ^ 31) : (nI i).toNatClampNeg = i := nI_clamp h
section RD2
variable {n : Nat} {I : Nat → Nat → Int32} {J : Nat → Nat → Int64} {T : Nat → Nat}
/-- World.has -/
theorem has_ev {k : Nat} (hk : k < 14) {x : Int32} {t : Nat} (ht : I 4 k = nI t) (htt : t < 2 ^ 31) [Decidable (ixB x t)] : mX8_has (mk n I J) 3 (nI k) x = some (if ixB x t then 1 else 0, mk n I J) := by
  unfold mX8_has
  have hk2 := ixB_nI (t := 14) hk (by decide)
  have hk3 := cl_nI (i := k) (by omega)
  simp only [mk_oO o_3, mk_gR f_3_0, mk_aI a_4, Option.bind_some, if_pos hk2, hk3, ht, rz0, rz1]
  by_cases h1 : x < 0
  · rw [if_pos h1, if_neg (fun h => lt0.mp h1 h.1)]
  · have h2 : 0 ≤ x.toInt := Decidable.not_not.mp (fun h => h1 (lt0.mpr h))
    rw [if_neg h1]
    by_cases h3 : nI t ≤ x
    · rw [if_pos h3, if_neg (fun h => (nI_le_x htt).mp h3 h.2)]
    · rw [if_neg h3, if_pos ⟨h2, Decidable.not_not.mp (fun h => h3 ((nI_le_x htt).mpr h))⟩]
/-- isIn -/
theorem isIn_ev {h : PH} {x : Int32} {t : Nat} (htt : t < 2 ^ 31) [Decidable (ixB x t)] : mX10_isIn h (nI t) x = some (if ixB x t then 1 else 0, h) := by
  unfold mX10_isIn
  simp only [rz0, rz1]
  by_cases h1 : x < 0
  · rw [if_pos h1, if_neg (fun h => lt0.mp h1 h.1)]
  · have h2 : 0 ≤ x.toInt := Decidable.not_not.mp (fun h => h1 (lt0.mpr h))
    rw [if_neg h1]
    by_cases h3 : nI t ≤ x
    · rw [if_pos h3, if_neg (fun h => (nI_le_x htt).mp h3 h.2)]
    · rw [if_neg h3, if_pos ⟨h2, Decidable.not_not.mp (fun h => h3 ((nI_le_x htt).mpr h))⟩]
theorem within_ev {h : PH} {x a b : Int64} [Decidable (a ≤ x ∧ x ≤ b)] : mX10_within h x a b = some (if a ≤ x ∧ x ≤ b then 1 else 0, h) := by
  unfold mX10_within
  simp only [rz0, rz1]
  by_cases h1 : x < a
  · rw [if_pos h1, if_neg (fun h => (Int64.not_le.mpr h1) h.1)]
  · rw [if_neg h1]
    by_cases h3 : b < x
    · rw [if_pos h3, if_neg (fun h => (Int64.not_le.mpr h3) h.2)]
    · rw [if_neg h3, if_pos ⟨Int64.not_lt.mp h1, Int64.not_lt.mp h3⟩]
theorem NR.at (h : NR I 225 0 T) {k : Nat} (hk : k < 232) : I 225 k = nI (T k) := by
  have := h k hk
  rw [Nat.zero_add] at this
  exact this
theorem ge_lt {x : Int32} {m : Nat} (hm : m < 2 ^ 31) : x < nI m ↔ x.toInt < (m : Int) := by
  rw [Int32.lt_iff_toInt_lt, nI_toInt hm]
theorem wide_in {x : Int32} {m : Nat} (hm : m < 2 ^ 31) : (((0 : Int64) ≤ x.toInt64 ∧ x.toInt64 ≤ lN m) ↔ ixB x (m + 1)) := by
  rw [Int64.le_iff_toInt_le, Int64.le_iff_toInt_le, Int32.toInt_toInt64, lN_toInt hm]
  show ((0 : Int) ≤ _ ∧ _) ↔ _
  unfold ixB
  omega
/-- thrown alone is written -/
theorem Inv_thrown (h : INV I J) (x : Int32) : Inv (mk n (u2 I 224 0 x) J) := ⟨n, _, J, rfl, h.scr (fun a c hr => by
  unfold u2
  rw [if_neg]
  unfold relI at hr
  omega) (fun _ _ _ => rfl)⟩
end RD2
set_option maxHeartbeats 4000000 in
theorem sim_resold : SIM_resold Inv 0 224 := by
  classical
  intro h c1 c2 hI
  obtain ⟨n, I, J, rfl, hI⟩ := hI
  have hV := id hI
  obtain ⟨T, hT, hN, hW, -⟩ := hV
  have t4 : T 4 ≤ 12 := hT.1.2.2.2.2.1
  have e1 : mX8_has (mk n I J) 3 (4 : Int32) c1 = _ := has_ev (k := 4) (t := T 4) (by decide) (hW.1 4 (by decide)) (by omega)
  unfold mX9_resold mX10_resold
  simp only [mk_oO o_0, mk_gR f_0_1, Option.bind_some, e1, b2_some, mk_oO o_224, mk_pI f_224_0, mk_gR f_224_1, mk_aI a_225]
  refine ⟨?_, ?_, ?_, rfl, ?_, ?_⟩
  all_goals sorry
