/-! ===== 97: the draft behind a line ===== -/
section PN
variable {b : Nat → Nat} {N q : Nat} {nm : NmL} {D : Nat → Nat} {u : Nat}
theorem oKin_none (h : oKin b N q nm D = none) : (tnQ b N q nm 0).isSome = true ∧ (tnQ b N (tE b N q) nm 0).isSome = true ∧ (tnQ b N q nm 0).getD 0 ≠ (tnQ b N (tE b N q) nm 0).getD 0 ∧ ¬ told D ((tnQ b N q nm 0).getD 0) ((tnQ b N (tE b N q) nm 0).getD 0) := by
  obtain ⟨z1, z2⟩ := (@md_none _ _ (Classical.propDecidable _) _).mp h
  obtain ⟨z3, z4⟩ := md_none.mp z1
  obtain ⟨z5, z6⟩ := md_none.mp z3
  obtain ⟨-, z8⟩ := md_none.mp z5
  exact ⟨z8, z6, z4, z2⟩
theorem oSaleX_none {c : Nat} (h : oSaleX b N q nm c = none) : oSale3 b N q nm c = none ∧ (rSale b N q nm c).1 = none := by
  unfold oSaleX at h
  cases ho : oSale3 b N q nm c with
  | none => rw [ho] at h; exact ⟨rfl, h⟩
  | some f => rw [ho] at h; cases h
theorem qle {q : Nat} (h : q ≤ N) : tE b N q ≤ N ∧ q ≤ tE b N q := ⟨(tE_in h).2, (tE_in h).1⟩
theorem q2le {q : Nat} (h : q ≤ N) : q2 b N q ≤ N ∧ q ≤ q2 b N q := ⟨(qle (qle h).1).1, Nat.le_trans (qle h).2 (qle (qle h).1).2⟩
theorem s4le {q : Nat} (h : q ≤ N) : s4 b N q ≤ N ∧ q ≤ s4 b N q := ⟨(q2le (q2le h).1).1, Nat.le_trans (q2le h).2 (q2le (q2le h).1).2⟩
theorem rSale_in (hP : PI nm D) (hq : q ≤ N) (hn : oSaleX b N q nm (D 3) = none) : q ≤ (rSale b N q nm (D 3)).2.1 ∧ (rSale b N q nm (D 3)).2.1 ≤ N ∧ rOK (rSale b N q nm (D 3)).2.2 ∧ ∀ i, i < 6 → (rSale b N q nm (D 3)).2.2 i = rowL (lSale b N q nm (D 3)) i := by
  obtain ⟨o3, -⟩ := oSaleX_none hn
  obtain ⟨hr, -⟩ := lSale_ok hP.2.1 hP.1 hq o3
  have e1 := s4le (b := b) hq
  have e2 := q2le (b := b) e1.1
  have e3 := q2le (b := b) e2.1
  have e4 := q2le (b := b) e3.1
  have b0 := hP.1.1
  obtain ⟨a1, a2, a3, a4⟩ := exS_in (b := b) (N := N) (hP.2.1.sale (b := b) (N := N) q) (by rw [uTn (by decide)]; exact hP.1.1.2.2.1) (N + 1) (qSale b N q) (rowL (lSale b N q nm (D 3))) 0 e4.1 hr
  have e5 : q ≤ qSale b N q := by unfold qSale; omega
  exact ⟨Nat.le_trans e5 a1, a2, a3, a4⟩
theorem PI_next (hP : PI nm D) (ho : NMok nm) (hq : q ≤ N) (hn : (lnF b N q nm D u).1 = none) : PI (lnF b N q nm D u).2.2.1 (lnF b N q nm D u).2.2.2.1 ∧ (lnF b N q nm D u).2.1 ≤ N ∧ q < (lnF b N q nm D u).2.1 := by
  have hT := hP.1
  have hB := hP.2.1
  have b0 := hT.1
  have b1 := hT.2.1
  have hg := tG_le (b := b) (N := N) q
  have h9 := hT.2.2.2.2.2.2.2.2.2
  have h12 : ¬ 12 ≤ tG b N q := fun z => by rw [lnF30 z] at hn; cases hn
  obtain ⟨-, hlt⟩ := tG_pro (b := b) (N := N) hq (by omega)
  have p1 := qle (b := b) hq
  have p2 := qle (b := b) p1.1
  have p3 := q2le (b := b) p2.1
  have p4 := q2le (b := b) p3.1
  have p5 := q2le (b := b) p4.1
  have r2 := q2le (b := b) p1.1
  have r3 := q2le (b := b) r2.1
  rcases (by omega : tG b N q = 0 ∨ tG b N q = 1 ∨ tG b N q = 2 ∨ tG b N q = 3 ∨ tG b N q = 4 ∨ tG b N q = 5 ∨ tG b N q = 6 ∨ tG b N q = 7 ∨ 8 ≤ tG b N q) with g | g | g | g | g | g | g | g | g
  · by_cases hc : D 0 < 6
    · rw [lnF0 g hc] at hn ⊢
      refine ⟨hP.add ho (hT.party hc) (s := 0) (by decide) _ (rwT_c _ _ _ _ _ _) (fun t _ z => rwT_out z (by omega)) (fun j z1 z2 => rwT_out (by omega) (by omega)) (fun j z1 z2 => rwT_out (by omega) (by omega)), p2.1, by dsimp only; omega⟩
    · rw [lnF0f g hc] at hn; cases hn
  · by_cases hc : D 11 < 6
    · rw [lnF1 g hc] at hn ⊢
      obtain ⟨k1, k2, k3, k4⟩ := oKin_none hn
      have y1 := tn_some k1 hB
      have y2 := tn_some k2 hB
      have hv := hT.ad y1 y2 k3 hc k4
      refine ⟨hP.same ho hv (fun s hs => ?_) (fun j z1 z2 => ?_) (fun j z1 z2 => ?_), r2.1, by dsimp only; omega⟩
      all_goals dsimp only; unfold adP; rw [uTn (by omega), uTn (by omega), uTn (by omega)]
    · rw [lnF1f g hc] at hn; cases hn
  · by_cases hc : D 1 < 6
    · rw [lnF2 g hc] at hn ⊢
      obtain ⟨k1, k2, k3⟩ := mA_none.mp hn
      obtain ⟨k4, k5, k6⟩ := mA_none.mp k1
      have z1 := k3.2.2
      have z2 := k6.2.2
      have c0 : rwT D 1 (D 1 + 1) (24 + 4 * D 1) 4 (rowL (lGood b N (tE b N q))) 1 = D 1 + 1 := rwT_c _ _ _ _ _ _
      have c3 : rwT D 1 (D 1 + 1) (24 + 4 * D 1) 4 (rowL (lGood b N (tE b N q))) 3 = D 3 := rwT_out (by omega) (by omega)
      have hv : VT (rwT D 1 (D 1 + 1) (24 + 4 * D 1) 4 (rowL (lGood b N (tE b N q)))) := hT.good hc (Nat.zero_le _) (in4 (by omega) (by omega) (by omega) (by omega))
      refine ⟨hP.add ho hv (s := 1) (by decide) _ c0 (fun t _ z => rwT_out z (by omega)) (fun j z1 z2 => rwT_out (by omega) (by omega)) (fun j z1 z2 => rwT_out (by omega) (by omega)), p4.1, by dsimp only; omega⟩
    · rw [lnF2f g hc] at hn; cases hn
  · by_cases hc : D 2 < 4
    · rw [lnF3 g hc] at hn ⊢
      have key : oAssist1 b N (tE b N q) nm = none ∧ (if tG b N (q2 b N (tE b N (tE b N q))) = 15 then 0 else tV b N (tE b N (q2 b N (tE b N (tE b N q))))) ≤ 9999 ∧ qAssist b N (tE b N q) ≤ N ∧ q < qAssist b N (tE b N q) := by
        unfold qAssist
        have hn' : oAssist b N (tE b N q) nm = none := hn
        unfold oAssist at hn'
        by_cases h15 : tG b N (q2 b N (tE b N (tE b N q))) = 15
        · rw [if_pos h15] at hn'
          rw [if_pos h15, if_pos h15]
          have := qle (b := b) p3.1
          exact ⟨hn', by omega, this.1, by omega⟩
        · rw [if_neg h15] at hn'
          rw [if_neg h15, if_neg h15]
          obtain ⟨k1, k2, k3⟩ := mA_none.mp hn'
          exact ⟨k1, k3.2.2, p4.1, by omega⟩
      obtain ⟨o1, v1, q1, q1'⟩ := key
      obtain ⟨k4, k5, k6⟩ := mA_none.mp o1
      have z2 := k6.2.2
      refine ⟨hP.add ho (hT.assist hc k6.2.1 (in2 z2 v1)) (s := 2) (by decide) _ (rwT_c _ _ _ _ _ _) (fun t _ z => rwT_out z (by omega)) (fun j z1 z2 => rwT_out (by omega) (by omega)) (fun j z1 z2 => ?_), q1, q1'⟩
      rw [rwT_out (by omega) (by omega)] at z1
      exact rwT_out (by omega) (by omega)
    · rw [lnF3f g hc] at hn; cases hn
  · by_cases hc : D 3 < 10
    · rw [lnF4 g hc] at hn ⊢
      obtain ⟨a1, a2, ⟨a3, a4, a5, a6⟩, a7⟩ := rSale_in hP p1.1 hn
      obtain ⟨o3, -⟩ := oSaleX_none hn
      obtain ⟨-, l0, l1, l2, l3, l4, l5⟩ := lSale_ok hB hT p1.1 o3
      have c0 : rwT D 3 (D 3 + 1) (56 + 12 * D 3) 12 (rSale b N (tE b N q) nm (D 3)).2.2 3 = D 3 + 1 := rwT_c _ _ _ _ _ _
      refine ⟨hP.add ho (hT.sale hc ⟨by rw [a7 0 (by decide)]; exact l0, by rw [a7 1 (by decide)]; exact l1, by rw [a7 2 (by decide)]; exact l2, by rw [a7 3 (by decide)]; exact l3, by rw [a7 4 (by decide)]; exact l4, by rw [a7 5 (by decide)]; exact l5, a3, a4, a5⟩ a6) (s := 3) (by decide) _ c0 (fun t _ z => rwT_out z (by omega)) (fun j z1 z2 => rwT_out (by omega) (by omega)) (fun j z1 z2 => rwT_out (by omega) (by omega)), a2, by dsimp only; omega⟩
    · rw [lnF4f g hc] at hn; cases hn
  · by_cases hc : D 4 < 12
    · rw [lnF5 g hc] at hn ⊢
      obtain ⟨k1, k2, k3⟩ := mA_none.mp hn
      obtain ⟨k4, k5, k6⟩ := mA_none.mp k1
      obtain ⟨k7, k8, k9⟩ := mA_none.mp k4
      have y1 := tn_some (md_none.mp k7).2 hB
      have z3 := k3.2.2
      have z6 := k6.2.2
      have z9 := k9.2.2
      refine ⟨hP.same ho (hT.resold hc ⟨y1, k9.2.1, k6.2.1, z3⟩ (in4 (by omega) z9 z6 (by omega))) (fun s hs => rwT_out (by omega) (by omega)) (fun j z1 z2 => rwT_out (by omega) (by omega)) (fun j z1 z2 => rwT_out (by omega) (by omega)), p5.1, by dsimp only; omega⟩
    · rw [lnF5f g hc] at hn; cases hn
  · rw [lnF6 g] at hn ⊢
    obtain ⟨k1, k2, k3⟩ := mA_none.mp hn
    obtain ⟨k4, k5, k6⟩ := mA_none.mp k1
    have y1 : gMade b N (tE b N q) nm < D 1 := tn_some (md_none.mp (md_none.mp k4).1).2 hB
    refine ⟨hP.same ho (hT.made k6.2.2 k3.2.2 y1) (fun s hs => ?_) (fun j z1 z2 => ?_) (fun j z1 z2 => ?_), p4.1, by dsimp only; omega⟩
    all_goals dsimp only; rw [uTn (by omega), uTn (by omega)]
  · by_cases hc : D 5 < 4
    · rw [lnF7 g hc] at hn ⊢
      obtain ⟨k1, k2, k3⟩ := mA_none.mp hn
      obtain ⟨k4, k5, k6⟩ := mA_none.mp k1
      have z3 := k3.2.2
      refine ⟨hP.same ho (hT.band hc z3 (in2 k6.2.2 (by omega))) (fun s hs => rwT_out (by omega) (by omega)) (fun j z1 z2 => rwT_out (by omega) (by omega)) (fun j z1 z2 => rwT_out (by omega) (by omega)), r3.1, by dsimp only; omega⟩
    · rw [lnF7f g hc] at hn; cases hn
  · obtain ⟨w, hw, hw4⟩ : ∃ w, tG b N q = 8 + w ∧ w < 4 := ⟨tG b N q - 8, by omega, by omega⟩
    by_cases hb : u.testBit w = true
    · rw [lnF8f hw4 hw hb] at hn; cases hn
    · rw [lnF8 hw4 hw hb] at hn ⊢
      have hn' : md none (okN b N (tE b N q) (rLo w) (rHi w)) (ftN b N (tE b N q)) = none := hn
      have k1 := (md_none.mp hn').2
      refine ⟨hP.same ho (hT.set (rOk hw4 k1.2.1 k1.2.2)) (fun s hs => uTn (by omega)) (fun j z1 z2 => uTn (by omega)) (fun j z1 z2 => uTn (by omega)), p2.1, by dsimp only; omega⟩
end PN
