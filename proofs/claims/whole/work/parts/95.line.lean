/-! ===== 95: a line, as both take it ===== -/
noncomputable def lnF (b : Nat → Nat) (N q : Nat) (nm : NmL) (D : Nat → Nat) (u : Nat) : Option Nat × Nat × NmL × (Nat → Nat) × Nat :=
  if tG b N q = 0 then (if D 0 < 6 then (md none (okG b N (tE b N q) nm) (ftG b N (tE b N q)), tE b N (tE b N q), nm ++ [(tW b N (tE b N q), 0, D 0)], rwT D 0 (D 0 + 1) 0 0 (rowL []), u) else (some (8 * tP b N q + 5), q, nm, D, u))
  else if tG b N q = 1 then (if D 11 < 6 then (oKin b N (tE b N q) nm D, q2 b N (tE b N q), nm, adP D ((tnQ b N (tE b N q) nm 0).getD 0) ((tnQ b N (tE b N (tE b N q)) nm 0).getD 0), u) else (some (8 * tP b N q + 5), q, nm, D, u))
  else if tG b N q = 2 then (if D 1 < 6 then (oGood b N (tE b N q) nm, q2 b N (q2 b N (tE b N (tE b N q))), nm ++ [(tW b N (tE b N q), 1, D 1)], rwT D 1 (D 1 + 1) (24 + 4 * D 1) 4 (rowL (lGood b N (tE b N q))), u) else (some (8 * tP b N q + 5), q, nm, D, u))
  else if tG b N q = 3 then (if D 2 < 4 then (oAssist b N (tE b N q) nm, qAssist b N (tE b N q), nm ++ [(tW b N (tE b N q), 2, D 2)], rwT D 2 (D 2 + 1) (48 + 2 * D 2) 2 (rowL (lAssist b N (tE b N q))), u) else (some (8 * tP b N q + 5), q, nm, D, u))
  else if tG b N q = 4 then (if D 3 < 10 then (oSaleX b N (tE b N q) nm (D 3), (rSale b N (tE b N q) nm (D 3)).2.1, nmS b N (tE b N q) nm (D 3), rwT D 3 (D 3 + 1) (56 + 12 * D 3) 12 (rSale b N (tE b N q) nm (D 3)).2.2, u) else (some (8 * tP b N q + 5), q, nm, D, u))
  else if tG b N q = 5 then (if D 4 < 12 then (oResold b N (tE b N q) nm, q2 b N (q2 b N (q2 b N (tE b N (tE b N q)))), nm, rwT D 4 (D 4 + 1) (176 + 4 * D 4) 4 (rowL (lResold b N (tE b N q) nm)), u) else (some (8 * tP b N q + 5), q, nm, D, u))
  else if tG b N q = 6 then (oMade b N (tE b N q) nm D, q2 b N (q2 b N (tE b N (tE b N q))), nm, uT (uT D (26 + 4 * gMade b N (tE b N q) nm) (tV b N (tE b N (tE b N (tE b N q))))) (27 + 4 * gMade b N (tE b N q) nm) (tV b N (tE b N (q2 b N (tE b N (tE b N q))))), u)
  else if tG b N q = 7 then (if D 5 < 4 then (oBand b N (tE b N q) D, q2 b N (q2 b N (tE b N q)), nm, rwT D 5 (D 5 + 1) (224 + 2 * D 5) 2 (rowL (lBand b N (tE b N q))), u) else (some (8 * tP b N q + 5), q, nm, D, u))
  else if tG b N q ≤ 11 then (if u.testBit (tG b N q - 8) = true then (some (8 * tP b N q + 2), q, nm, D, u) else (oRule b N (tE b N q) (tG b N q - 8), tE b N (tE b N q), nm, uT D (6 + (tG b N q - 8)) (tV b N (tE b N q)), u ||| 2 ^ (tG b N q - 8)))
  else (some (8 * tP b N q + 1), q, nm, D, u)
/-- what holds of a draft and its names -/
def PI (nm : NmL) (D : Nat → Nat) : Prop := VT D ∧ NB nm D ∧ nm.length = D 0 + D 1 + D 2 + D 3 ∧ (∀ j, 24 + 4 * D 1 ≤ j → j < 48 → D j = 0) ∧ ∀ j, 56 + 12 * D 3 ≤ j → j < 176 → D j = 0
section PL
variable {b : Nat → Nat} {N q : Nat} {nm : NmL} {D D' : Nat → Nat} {u : Nat}
theorem NB.mono (h : NB nm D) (ho : NMok nm) (hm : ∀ s, s ≤ 3 → D s ≤ D' s) : NB nm D' := fun x hx => Nat.lt_of_lt_of_le (h x hx) (hm _ (ho.2.1 x hx).2.1)
theorem PI.same (h : PI nm D) (ho : NMok nm) (hT : VT D') (he : ∀ s, s ≤ 3 → D' s = D s) (z1 : ∀ j, 24 + 4 * D 1 ≤ j → j < 48 → D' j = D j) (z2 : ∀ j, 56 + 12 * D 3 ≤ j → j < 176 → D' j = D j) : PI nm D' := by
  obtain ⟨h1, h2, h3, h4, h5⟩ := h
  refine ⟨hT, h2.mono ho (fun s hs => by rw [he s hs]; exact Nat.le_refl _), ?_, fun j a c => ?_, fun j a c => ?_⟩
  · rw [he 0 (by decide), he 1 (by decide), he 2 (by decide), he 3 (by decide)]; exact h3
  · rw [he 1 (by decide)] at a; rw [z1 j a c]; exact h4 j a c
  · rw [he 3 (by decide)] at a; rw [z2 j a c]; exact h5 j a c
theorem PI.add (h : PI nm D) (ho : NMok nm) (hT : VT D') {s : Nat} (hs : s ≤ 3) (w : List Nat) (hc : D' s = D s + 1) (he : ∀ t, t ≤ 3 → t ≠ s → D' t = D t) (z1 : ∀ j, 24 + 4 * D' 1 ≤ j → j < 48 → D' j = D j) (z2 : ∀ j, 56 + 12 * D' 3 ≤ j → j < 176 → D' j = D j) : PI (nm ++ [(w, s, D s)]) D' := by
  obtain ⟨h1, h2, h3, h4, h5⟩ := h
  have hm : ∀ t, t ≤ 3 → D t ≤ D' t := fun t ht => by
    by_cases hts : t = s
    · subst hts; omega
    · rw [he t ht hts]; exact Nat.le_refl _
  have m1 := hm 1 (by decide)
  have m3 := hm 3 (by decide)
  refine ⟨hT, fun x hx => ?_, ?_, fun j a c => ?_, fun j a c => ?_⟩
  · rcases List.mem_append.mp hx with z | z
    · exact h2.mono ho hm x z
    · rw [List.mem_singleton.mp z]
      show D s < D' s
      omega
  · rw [List.length_append, h3]
    show _ + 1 = _
    rcases (by omega : s = 0 ∨ s = 1 ∨ s = 2 ∨ s = 3) with rfl | rfl | rfl | rfl
    · rw [hc, he 1 (by decide) (by decide), he 2 (by decide) (by decide), he 3 (by decide) (by decide)]; omega
    · rw [hc, he 0 (by decide) (by decide), he 2 (by decide) (by decide), he 3 (by decide) (by decide)]; omega
    · rw [hc, he 1 (by decide) (by decide), he 0 (by decide) (by decide), he 3 (by decide) (by decide)]; omega
    · rw [hc, he 1 (by decide) (by decide), he 2 (by decide) (by decide), he 0 (by decide) (by decide)]; omega
  · rw [z1 j a c]; exact h4 j (by omega) c
  · rw [z2 j a c]; exact h5 j (by omega) c
theorem PI.len (h : PI nm D) (hl : D 0 + D 1 + D 2 + D 3 < 26) : nm.length < 26 := by rw [h.2.2.1]; exact hl
theorem tn_some {q s : Nat} (h : (tnQ b N q nm s).isSome = true) (hB : NB nm D) : (tnQ b N q nm s).getD 0 < D s := by
  obtain ⟨c, hc⟩ := Option.isSome_iff_exists.mp h
  rw [hc]; exact hB.lt hc
theorem in4 {a b c d m : Nat} (ha : a ≤ m) (hb : b ≤ m) (hc : c ≤ m) (hd : d ≤ m) (i : Nat) : rowL [a, b, c, d] i ≤ m := rowL_le (by simp [ha, hb, hc, hd]) i
theorem in2 {a b m : Nat} (ha : a ≤ m) (hb : b ≤ m) (i : Nat) : rowL [a, b] i ≤ m := rowL_le (by simp [ha, hb]) i
/-- the row of a sale ahead of its extras -/
theorem lSale_ok (hB : NB nm D) (hT : VT D) (hq : q ≤ N) (h : oSale3 b N q nm (D 3) = none) : rOK (rowL (lSale b N q nm (D 3))) ∧ (rowL (lSale b N q nm (D 3)) 0 < D 1 ∧ rowL (lSale b N q nm (D 3)) 1 < D 0 ∧ rowL (lSale b N q nm (D 3)) 2 < D 0 ∧ 1 ≤ rowL (lSale b N q nm (D 3)) 3 ∧ 1 ≤ rowL (lSale b N q nm (D 3)) 4 ∧ rowL (lSale b N q nm (D 3)) 5 ≤ 999) := by
  have b0 := hT.1
  obtain ⟨k1, k2, k3⟩ := mA_none.mp h
  obtain ⟨k4, k5, k6⟩ := mA_none.mp k1
  obtain ⟨k7, k8, k9⟩ := mA_none.mp k4
  have o1 := (md_none.mp k7).1
  obtain ⟨o2, t2⟩ := md_none.mp o1
  obtain ⟨o3, t3⟩ := md_none.mp o2
  obtain ⟨o4, t4⟩ := md_none.mp o3
  have hB' := hB.sale (b := b) (N := N) q
  have y0 : (tgS b N q nm (D 3)).getD 0 < D 1 := by have := tn_some t4 hB'; rw [uTn (by decide)] at this; exact this
  have y1 : (tpS b N q nm (D 3)).getD 0 < D 0 := by have := tn_some t3 hB'; rw [uTn (by decide)] at this; exact this
  have y2 : (tbS b N q nm (D 3)).getD 0 < D 0 := by have := tn_some t2 hB'; rw [uTn (by decide)] at this; exact this
  refine ⟨⟨Nat.zero_le _, Nat.zero_le _, (by decide : 0 < 16), fun i => rowL_le ?_ i⟩, y0, y1, y2, k9.2.1, k6.2.1, k3.2.2⟩
  have z1 := k9.2.2
  have z2 := k6.2.2
  have z3 := k3.2.2
  intro x hx
  simp only [lSale, List.mem_cons, List.not_mem_nil, or_false] at hx
  omega
end PL
