/-! ===== 93: a sale's line, the class's ===== -/
def s4 (b : Nat → Nat) (N q : Nat) : Nat := tE b N (tE b N (tE b N (tE b N q)))
def nmS (b : Nat → Nat) (N q : Nat) (nm : NmL) (c : Nat) : NmL := nm ++ [(tW b N q, 3, c)]
def tgS (b : Nat → Nat) (N q : Nat) (nm : NmL) (c : Nat) : Option Nat := tnQ b N (tE b N q) (nmS b N q nm c) 1
def tpS (b : Nat → Nat) (N q : Nat) (nm : NmL) (c : Nat) : Option Nat := tnQ b N (tE b N (tE b N q)) (nmS b N q nm c) 0
def tbS (b : Nat → Nat) (N q : Nat) (nm : NmL) (c : Nat) : Option Nat := tnQ b N (tE b N (tE b N (tE b N q))) (nmS b N q nm c) 0
def oSale1 (b : Nat → Nat) (N q : Nat) (nm : NmL) (c : Nat) : Option Nat := md (md (md (md none (okG b N q nm) (ftG b N q)) ((tgS b N q nm c).isSome = true) (ftT b N (tE b N q))) ((tpS b N q nm c).isSome = true) (ftT b N (tE b N (tE b N q)))) ((tbS b N q nm c).isSome = true) (ftT b N (tE b N (tE b N (tE b N q))))
def oSale2 (b : Nat → Nat) (N q : Nat) (nm : NmL) (c : Nat) : Option Nat := md (oSale1 b N q nm c) ((tpS b N q nm c).getD 0 ≠ (tbS b N q nm c).getD 0) (8 * tP b N (tE b N (tE b N (tE b N q))) + 4)
def oSale3 (b : Nat → Nat) (N q : Nat) (nm : NmL) (c : Nat) : Option Nat := oTrade b N (oSale2 b N q nm c) (s4 b N q)
def qSale (b : Nat → Nat) (N q : Nat) : Nat := q2 b N (q2 b N (q2 b N (s4 b N q)))
def lSale (b : Nat → Nat) (N q : Nat) (nm : NmL) (c : Nat) : List Nat := [(tgS b N q nm c).getD 0, (tpS b N q nm c).getD 0, (tbS b N q nm c).getD 0, tV b N (tE b N (s4 b N q)), tV b N (tE b N (q2 b N (s4 b N q))), tV b N (tE b N (q2 b N (q2 b N (s4 b N q)))), 0, 0, 0, 0, 0, 0]
def rSale (b : Nat → Nat) (N q : Nat) (nm : NmL) (c : Nat) : Option Nat × Nat × (Nat → Nat) := exS b N (nmS b N q nm c) (N + 1) (qSale b N q) (rowL (lSale b N q nm c)) 0
def oSaleX (b : Nat → Nat) (N q : Nat) (nm : NmL) (c : Nat) : Option Nat := match oSale3 b N q nm c with
  | none => (rSale b N q nm c).1
  | some f => some f
section CS
variable {n : Nat} {b : Nat → Nat} {N q : Nat} {nm : NmL} {I : Nat → Nat → Int32} {J : Nat → Nat → Int64} {D : Nat → Nat}
theorem NB.sale (h : NB nm D) (q : Nat) : NB (nmS b N q nm (D 3)) (uT D 3 (D 3 + 1)) := by
  intro x hx
  rcases List.mem_append.mp hx with z | z
  · have := h x z
    by_cases h3 : x.2.1 = 3
    · rw [h3, uTa]; rw [h3] at this; omega
    · rw [uTn h3]; exact this
  · rw [List.mem_singleton.mp z]
    show D 3 < uT D 3 (D 3 + 1) 3
    rw [uTa]; omega
theorem C_saleH (h : CRd b N q nm I J) (hW : WR I 48 D) (hT : VT D) (hB : NB nm D) (h3 : D 3 < 10) (hl : nm.length < 26) : ∃ I' J', mX4_readSale (mk n I J) 94 (64 + D 3) = some (mk n I' J') ∧ CM b N (oSale3 b N q nm (D 3)) (qSale b N q) (nmS b N q nm (D 3)) I' J' ∧ (∀ a c, a < 94 ∨ 99 ≤ a → a ≠ 64 + D 3 → I' a c = I a c) ∧ I' 94 6 = I 94 6 ∧ Gw J J' ∧ (oSale3 b N q nm (D 3) = none → (∀ j, j < 12 → I' (64 + D 3) j = nI (rowL (lSale b N q nm (D 3)) j)) ∧ J' 74 (D 3) = lN (enc 27 (tW b N q)) ∧ ∀ s, s ≠ D 3 → J' 74 s = J 74 s) := by
  have hrc := r_63 _ h3
  have hN := h.1.1
  have hB' := hB.sale (b := b) (N := N) q
  have d0 : uT D 3 (D 3 + 1) 0 ≤ 6 := by rw [uTn (by decide)]; exact hT.1.1
  have d1 : uT D 3 (D 3 + 1) 1 ≤ 6 := by rw [uTn (by decide)]; exact hT.1.2.1
  have w1 : I 49 3 = nI (D 3) := hW.1 3 (by decide)
  have p1 := tE_in (b := b) h.2.1
  have p2 := tE_in (b := b) p1.2
  have p3 := tE_in (b := b) p2.2
  have pp := tP_in (b := b) (N := N) p3.2
  obtain ⟨I0, e0, f0, z0⟩ := C_fill (n := n) (J := J) (I := I) hrc (by decide)
  obtain ⟨I1, J1, e1, r1, f1, g1, j1⟩ := A_give (n := n) (o := none) (s := 3) (c := D 3) (h.keep (I' := I0) (fun a c z => f0 a c (by omega))) (by decide) h3 (by rw [f0 _ _ (by omega)]; exact w1) hl
  have w11 : I1 49 3 = nI (D 3) := by rw [f1.at _ _ (by omega), f0 _ _ (by omega)]; exact w1
  obtain ⟨I2, J2, e2, r2, f2, g2, -⟩ := A_told (n := n) (s := 1) (r1.keepJ (J' := u2 J1 74 (D 3) (J1 98 7)) (fun a c z => u2_no _ _ (by omega))) (by decide)
  have v0 : md none (okG b N q nm) (ftG b N q) = none → tvl b N (tE b N q) (nmS b N q nm (D 3)) 1 (md none (okG b N q nm) (ftG b N q)) = (tgS b N q nm (D 3)).getD 0 := fun z => if_pos z
  change _ = some (nI (tvl b N (tE b N q) (nmS b N q nm (D 3)) 1 (md none (okG b N q nm) (ftG b N q))), _) at e2
  generalize tvl b N (tE b N q) (nmS b N q nm (D 3)) 1 (md none (okG b N q nm) (ftG b N q)) = x0 at *
  obtain ⟨I3, J3, e3, r3, f3, g3, -⟩ := A_told (n := n) (s := 0) (r2.keep (I' := u2 I2 (64 + D 3) 0 (nI x0)) (fun a c z => u2_no _ _ (by omega))) (by decide)
  have tl : ∀ (o : Option Nat) (q' : Nat), tvl b N q' (nmS b N q nm (D 3)) 0 o < 6 := fun o q' => by
    unfold tvl
    split
    · exact tn_lt hB' d0 (by decide)
    · decide
  generalize hm2 : md (md none (okG b N q nm) (ftG b N q)) ((tnQ b N (tE b N q) (nm ++ [(tW b N q, 3, D 3)]) 1).isSome = true) (ftT b N (tE b N q)) = m2 at *
  have v1 : m2 = none → tvl b N (tE b N (tE b N q)) (nmS b N q nm (D 3)) 0 m2 = (tpS b N q nm (D 3)).getD 0 := fun z => if_pos z
  have t1 := tl m2 (tE b N (tE b N q))
  change _ = some (nI (tvl b N (tE b N (tE b N q)) (nmS b N q nm (D 3)) 0 m2), _) at e3
  generalize tvl b N (tE b N (tE b N q)) (nmS b N q nm (D 3)) 0 m2 = x1 at *
  obtain ⟨I4, J4, e4, r4, f4, g4, a4⟩ := A_told (n := n) (s := 0) (r3.keep (I' := u2 I3 (64 + D 3) 1 (nI x1)) (fun a c z => u2_no _ _ (by omega))) (by decide)
  generalize hm3 : md m2 ((tnQ b N (tE b N (tE b N q)) (nm ++ [(tW b N q, 3, D 3)]) 0).isSome = true) (ftT b N (tE b N (tE b N q))) = m3 at *
  have v2 : m3 = none → tvl b N (tE b N (tE b N (tE b N q))) (nmS b N q nm (D 3)) 0 m3 = (tbS b N q nm (D 3)).getD 0 := fun z => if_pos z
  have t2 := tl m3 (tE b N (tE b N (tE b N q)))
  change _ = some (nI (tvl b N (tE b N (tE b N (tE b N q))) (nmS b N q nm (D 3)) 0 m3), _) at e4
  generalize tvl b N (tE b N (tE b N (tE b N q))) (nmS b N q nm (D 3)) 0 m3 = x2 at *
  have hm4 : oSale1 b N q nm (D 3) = md m3 ((tnQ b N (tE b N (tE b N (tE b N q))) (nm ++ [(tW b N q, 3, D 3)]) 0).isSome = true) (ftT b N (tE b N (tE b N (tE b N q)))) := by rw [← hm3, ← hm2]; rfl
  rw [← hm4] at r4 a4
  have n4 : oSale1 b N q nm (D 3) = none → m3 = none ∧ m2 = none ∧ md none (okG b N q nm) (ftG b N q) = none := fun z => by
    rw [hm4] at z
    have z3 := (md_none.mp z).1
    have z2 : m2 = none := by rw [← hm3] at z3; exact (md_none.mp z3).1
    have z1 := z2
    rw [← hm2] at z1
    exact ⟨z3, z2, (md_none.mp z1).1⟩
  have w41 : u2 I4 (64 + D 3) 2 (nI x2) (64 + D 3) 1 = nI x1 := by simp (disch := omega) only [u2_no, f4.at, u2_at]
  have w42 : u2 I4 (64 + D 3) 2 (nI x2) (64 + D 3) 2 = nI x2 := u2_at _ _ _ _
  have key : ∃ I5, (if nI x1 = nI x2 then (mX4_fail (mk n (u2 I4 (64 + D 3) 2 (nI x2)) J4) 94 (nI 4)).bind (fun h => mX4_readSale_b72 h 94 (64 + D 3)) else mX4_readSale_b72 (mk n (u2 I4 (64 + D 3) 2 (nI x2)) J4) 94 (64 + D 3)) = mX4_readSale_b72 (mk n I5 J4) 94 (64 + D 3) ∧ CM b N (oSale2 b N q nm (D 3)) (s4 b N q) (nmS b N q nm (D 3)) I5 J4 ∧ Fo (u2 I4 (64 + D 3) 2 (nI x2)) I5 := by
    have r4' := r4.keep (I' := u2 I4 (64 + D 3) 2 (nI x2)) (fun a c z => u2_no _ _ (by omega))
    obtain ⟨I5, e5, r5, f5⟩ := A_fail (n := n) r4' (p := tP b N (tE b N (tE b N (tE b N q)))) (k := 4) (by omega) (by omega) (fun z => by rw [u2_no _ _ (by omega)]; exact a4 z)
    have md2 : (oSale1 b N q nm (D 3) = none → x1 = x2) → (oSale1 b N q nm (D 3) ≠ none ∨ x1 = x2) → oSale2 b N q nm (D 3) = md (oSale1 b N q nm (D 3)) False (8 * tP b N (tE b N (tE b N (tE b N q))) + 4) := fun y _ => by
      unfold oSale2
      cases ho : oSale1 b N q nm (D 3) with
      | some f => rfl
      | none =>
        obtain ⟨z3, z2, z1⟩ := n4 ho
        rw [← v1 z2, ← v2 z3]
        exact md_f (fun w => w (y ho))
    have md3 : x1 ≠ x2 → oSale2 b N q nm (D 3) = oSale1 b N q nm (D 3) := fun y => by
      unfold oSale2
      cases ho : oSale1 b N q nm (D 3) with
      | some f => rfl
      | none =>
        obtain ⟨z3, z2, z1⟩ := n4 ho
        rw [← v1 z2, ← v2 z3]
        exact md_t y
    by_cases hx : x1 = x2
    · refine ⟨I5, ?_, ?_, f5⟩
      · rw [if_pos (by rw [hx]), e5, obs]
      · rw [md2 (fun _ => hx) (Or.inr hx)]; exact r5
    · refine ⟨_, ?_, ?_, Fo.refl _⟩
      · rw [if_neg (by rw [nI_eq (by omega) (by omega)]; exact hx)]
      · rw [md3 hx]; exact r4'
  obtain ⟨I5, e5, r5, f5⟩ := key
  obtain ⟨I6, J6, I7, J7, x7, e6, e7, r7, f7, g7, v7⟩ := A_aft (n := n) r5 (x := 17) (lo := 1) (hi := 9999) (by decide) (by decide) (by decide) (64 + D 3) 3 (by omega)
  obtain ⟨I8, J8, I9, J9, x9, e8, e9, r9, f9, g9, v9⟩ := A_aft (n := n) r7 (x := 18) (lo := 1) (hi := 9999) (by decide) (by decide) (by decide) (64 + D 3) 4 (by omega)
  obtain ⟨Ia, Ja, Ib, Jb, xb, ea, eb, rb, fb, gb, vb⟩ := A_aft (n := n) r9 (x := 19) (lo := 0) (hi := 999) (by decide) (by decide) (by decide) (64 + D 3) 5 (by omega)
  refine ⟨u2 Ib (64 + D 3) 5 (nI xb), Jb, ?_, rb, fun a c z z2 => by rw [u2_no _ _ (by omega), fb.at a c z, u2_no _ _ (by omega), f9.at a c z, u2_no _ _ (by omega), f7.at a c z, f5.at a c z, u2_no _ _ (by omega), f4.at a c z, u2_no _ _ (by omega), f3.at a c z, u2_no _ _ (by omega), f2.at a c z, f1.at a c z, f0 a c z2], ?_, ?_, fun ok => ?_⟩
  · unfold mX4_readSale
    rw [mk_oO o_94, show (0 : Int32) = nI 0 from rfl, e0, obs]
    simp (disch := omega) only [mk_oO o_48, mk_oO o_94, mk_oO o_98, mk_gR f_48_0, mk_gR f_48_1, mk_gR f_48_2, mk_gR f_48_3, mk_gR f_48_4, mk_gR f_48_5, mk_gR f_48_6, mk_gR f_48_7, mk_gR f_94_0, mk_gR f_94_1, mk_gR f_94_2, mk_gR f_94_3, mk_gR f_94_4, mk_gI f_94_5, mk_pI f_94_5, mk_gI f_94_6, mk_pI f_94_6, mk_gI f_94_7, mk_pI f_94_7, mk_gR f_98_0, mk_gR f_98_1, mk_gI f_98_2, mk_pI f_98_2, mk_gI f_98_3, mk_pI f_98_3, mk_gI f_98_4, mk_pI f_98_4, mk_gI f_98_5, mk_pI f_98_5, mk_gI f_98_6, mk_pI f_98_6, mk_gL f_98_7, mk_pL f_98_7, ↓m_1, ↓m_2, i_0, i_1, i_2, i_3, i_4, i_6, i_5, i_12, i_11, i_10, i_9999, i_7, i_9, i_8, i_24, i_100, i_56, i_48, i_13, i_176, i_232, i_224, i_32, i_999, i_99, i_900, i_97, i_90, i_30, i_20, i_59, i_14, i_50, i_29, i_22, i_19, i_18, i_17, i_96, i_61, i_57, i_51, i_41, i_26, i_2552, i_255, i_25, i_23, i_21, i_16, i_15, i_122, i_10000, i_31, dzF, obs, b2_some, rz0, rz1, rzb, n01, n01', n10, n01e, nI_add, nI_mul, ↓reduceIte, not_false_eq_true, not_true_eq_false, ite_not, e1, mk_aIn a_49, w11, mk_sLn a_74, e2, mk_sIn hrc, e3, e4, mk_aIn hrc, w41, w42]
    refine e5.trans ?_
    unfold mX4_readSale_b72
    simp (disch := omega) only [mk_oO o_48, mk_oO o_94, mk_oO o_98, mk_gR f_48_0, mk_gR f_48_1, mk_gR f_48_2, mk_gR f_48_3, mk_gR f_48_4, mk_gR f_48_5, mk_gR f_48_6, mk_gR f_48_7, mk_gR f_94_0, mk_gR f_94_1, mk_gR f_94_2, mk_gR f_94_3, mk_gR f_94_4, mk_gI f_94_5, mk_pI f_94_5, mk_gI f_94_6, mk_pI f_94_6, mk_gI f_94_7, mk_pI f_94_7, mk_gR f_98_0, mk_gR f_98_1, mk_gI f_98_2, mk_pI f_98_2, mk_gI f_98_3, mk_pI f_98_3, mk_gI f_98_4, mk_pI f_98_4, mk_gI f_98_5, mk_pI f_98_5, mk_gI f_98_6, mk_pI f_98_6, mk_gL f_98_7, mk_pL f_98_7, ↓m_1, ↓m_2, i_0, i_1, i_2, i_3, i_4, i_6, i_5, i_12, i_11, i_10, i_9999, i_7, i_9, i_8, i_24, i_100, i_56, i_48, i_13, i_176, i_232, i_224, i_32, i_999, i_99, i_900, i_97, i_90, i_30, i_20, i_59, i_14, i_50, i_29, i_22, i_19, i_18, i_17, i_96, i_61, i_57, i_51, i_41, i_26, i_2552, i_255, i_25, i_23, i_21, i_16, i_15, i_122, i_10000, i_31, dzF, obs, b2_some, rz0, rz1, rzb, n01, n01', n10, n01e, nI_add, nI_mul, ↓reduceIte, not_false_eq_true, not_true_eq_false, ite_not, e6, e7, mk_sIn hrc, e8, e9, ea, eb]
  · simp (disch := omega) only [u2_no, fb.six, f9.six, f7.six, f5.six, f4.six, f3.six, f2.six, f1.six, f0]
  · intro a c z1 z2 z3
    rw [gb a c z3 z2, g9 a c z3 z2, g7 a c z3 z2, g4 a c z3 z2, g3 a c z3 z2, g2 a c z3 z2, u2_no _ _ (by omega), g1 a c z3 z2]
  · have o2' := (mA_none.mp ok).1
    have o1' := (mA_none.mp o2').1
    have o0' := (mA_none.mp o1').1
    have os1 := (md_none.mp o0').1
    obtain ⟨z3, z2, z1⟩ := n4 os1
    have y0 := v0 z1
    have y1 := v1 z2
    have y2 := v2 z3
    have y7 := v7 o1'
    have y9 := v9 o2'
    have yb := vb ok
    refine ⟨fun j hj => ?_, ?_, fun s hs => ?_⟩
    · rcases (by omega : j = 0 ∨ j = 1 ∨ j = 2 ∨ j = 3 ∨ j = 4 ∨ j = 5 ∨ 6 ≤ j) with rfl | rfl | rfl | rfl | rfl | rfl | hj6
      · show _ = nI ((tgS b N q nm (D 3)).getD 0)
        rw [← y0]
        simp (disch := omega) only [u2_no, fb.at, f9.at, f7.at, f5.at, f4.at, f3.at, u2_at]
      · show _ = nI ((tpS b N q nm (D 3)).getD 0)
        rw [← y1]
        simp (disch := omega) only [u2_no, fb.at, f9.at, f7.at, f5.at, f4.at, u2_at]
      · show _ = nI ((tbS b N q nm (D 3)).getD 0)
        rw [← y2]
        simp (disch := omega) only [u2_no, fb.at, f9.at, f7.at, f5.at, u2_at]
      · show _ = nI (tV b N (tE b N (s4 b N q)))
        rw [← y7]
        simp (disch := omega) only [u2_no, fb.at, f9.at, u2_at]
      · show _ = nI (tV b N (tE b N (q2 b N (s4 b N q))))
        rw [← y9]
        simp (disch := omega) only [u2_no, fb.at, u2_at]
      · show _ = nI (tV b N (tE b N (q2 b N (q2 b N (s4 b N q)))))
        rw [← yb, u2_at]
      · have : rowL (lSale b N q nm (D 3)) j = 0 := by
          rcases (by omega : j = 6 ∨ j = 7 ∨ j = 8 ∨ j = 9 ∨ j = 10 ∨ j = 11) with rfl | rfl | rfl | rfl | rfl | rfl <;> rfl
        rw [this]
        simp (disch := omega) only [u2_no, fb.at, f9.at, f7.at, f5.at, f4.at, f3.at, f2.at, f1.at]
        exact z0 j hj
    · rw [gb _ _ (by decide) (by decide), g9 _ _ (by decide) (by decide), g7 _ _ (by decide) (by decide), g4 _ _ (by decide) (by decide), g3 _ _ (by decide) (by decide), g2 _ _ (by decide) (by decide), u2_at]
      exact j1 z1
    · rw [gb _ _ (by decide) (by decide), g9 _ _ (by decide) (by decide), g7 _ _ (by decide) (by decide), g4 _ _ (by decide) (by decide), g3 _ _ (by decide) (by decide), g2 _ _ (by decide) (by decide), u2_no _ _ (by omega), g1 _ _ (by decide) (by decide)]
end CS
