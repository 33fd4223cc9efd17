/-! ===== 88: the class's lines ===== -/
theorem Fo.at {I I' : Nat → Nat → Int32} (h : Fo I I') : ∀ a c, a < 94 ∨ 99 ≤ a → I' a c = I a c := fun a c z => h a c (by omega) (by omega) (by omega) (by omega)
theorem Fo.six {I I' : Nat → Nat → Int32} (h : Fo I I') : I' 94 6 = I 94 6 := h _ _ (by omega) (by omega) (by omega) (by omega)
def Fw (I I' : Nat → Nat → Int32) : Prop := ∀ a c, a < 48 ∨ 99 ≤ a → I' a c = I a c
def Gw (J J' : Nat → Nat → Int64) : Prop := ∀ a c, a ≠ 74 → a ≠ 95 → a ≠ 98 → J' a c = J a c
theorem Fw.refl (I : Nat → Nat → Int32) : Fw I I := fun _ _ _ => rfl
theorem Gw.refl (J : Nat → Nat → Int64) : Gw J J := fun _ _ _ _ _ => rfl
theorem Fw.trans {I I' I'' : Nat → Nat → Int32} (h : Fw I I') (h' : Fw I' I'') : Fw I I'' := fun a c z => (h' a c z).trans (h a c z)
theorem Gw.trans {J J' J'' : Nat → Nat → Int64} (h : Gw J J') (h' : Gw J' J'') : Gw J J'' := fun a c z1 z2 z3 => (h' a c z1 z2 z3).trans (h a c z1 z2 z3)
theorem Fo.fw {I I' : Nat → Nat → Int32} (h : Fo I I') : Fw I I' := fun a c z => h.at a c (by omega)
theorem Go.gw {J J' : Nat → Nat → Int64} (h : Go J J') : Gw J J' := fun a c _ z2 z3 => h a c z3 z2
/-- a count and a row told anew, in the class's draft -/
def Rw (I I' : Nat → Nat → Int32) (cnt v rc len : Nat) (R : Nat → Nat) : Prop := I' 49 cnt = nI v ∧ (∀ i, i < len → I' rc i = nI (R i)) ∧ (∀ a c, 48 ≤ a → a < 94 → ¬ (a = 49 ∧ c = cnt) → a ≠ rc → I' a c = I a c) ∧ I' 94 6 = I 94 6
def rowL (l : List Nat) : Nat → Nat := fun i => l.getD i 0
theorem rowL_le {l : List Nat} {m : Nat} (h : ∀ x ∈ l, x ≤ m) (i : Nat) : rowL l i ≤ m := by
  unfold rowL
  rw [List.getD_eq_getElem?_getD]
  cases hx : l[i]? with
  | none => exact Nat.zero_le _
  | some x => exact h x (List.mem_of_getElem? hx)
theorem md_t {o : Option Nat} {ok : Prop} [Decidable ok] {g : Nat} (h : ok) : md o ok g = o := by
  cases o with
  | none => exact md_ok h
  | some f => rfl
theorem md_f {o : Option Nat} {ok : Prop} [Decidable ok] {g : Nat} (h : ¬ ok) : md o ok g = md o False g := by
  cases o with
  | none => rw [md_no h, md_no id]
  | some f => rfl
theorem md_F {o : Option Nat} {g : Nat} : md o False g = some (o.getD g) := by
  cases o with
  | none => exact md_no id
  | some f => rfl
def mA (b : Nat → Nat) (N : Nat) (o : Option Nat) (q x lo hi : Nat) : Option Nat := md (md o (tG b N q = x) (8 * tP b N q + 1)) (okN b N (tE b N q) lo hi) (ftN b N (tE b N q))
def q2 (b : Nat → Nat) (N q : Nat) : Nat := tE b N (tE b N q)
theorem mA_none {b : Nat → Nat} {N : Nat} {o : Option Nat} {q x lo hi : Nat} : mA b N o q x lo hi = none ↔ o = none ∧ tG b N q = x ∧ okN b N (tE b N q) lo hi := by
  unfold mA
  rw [md_none, md_none, and_assoc]
def oGood (b : Nat → Nat) (N q : Nat) (nm : NmL) : Option Nat := mA b N (mA b N (md none (okG b N q nm) (ftG b N q)) (tE b N q) 12 0 9) (q2 b N (tE b N q)) 13 0 9
def lGood (b : Nat → Nat) (N q : Nat) : List Nat := [tV b N (tE b N (tE b N q)), tV b N (tE b N (q2 b N (tE b N q))), 0, 0]
def oTrade (b : Nat → Nat) (N : Nat) (o : Option Nat) (q : Nat) : Option Nat := mA b N (mA b N (mA b N o q 17 1 9999) (q2 b N q) 18 1 9999) (q2 b N (q2 b N q)) 19 0 999
def oResold (b : Nat → Nat) (N q : Nat) (nm : NmL) : Option Nat := oTrade b N (md none ((tnQ b N q nm 1).isSome = true) (ftT b N q)) (tE b N q)
def lResold (b : Nat → Nat) (N q : Nat) (nm : NmL) : List Nat := [(tnQ b N q nm 1).getD 0, tV b N (tE b N (tE b N q)), tV b N (tE b N (q2 b N (tE b N q))), tV b N (tE b N (q2 b N (q2 b N (tE b N q))))]
def bLo (D : Nat → Nat) : Nat := if D 5 = 0 then 2 else D (224 + 2 * (D 5 - 1)) + 1
def oBand (b : Nat → Nat) (N q : Nat) (D : Nat → Nat) : Option Nat := mA b N (mA b N none q 22 (bLo D) 9999) (q2 b N q) 23 0 90
def lBand (b : Nat → Nat) (N q : Nat) : List Nat := [tV b N (tE b N q), tV b N (tE b N (q2 b N q))]
def gMade (b : Nat → Nat) (N q : Nat) (nm : NmL) : Nat := (tnQ b N q nm 1).getD 0
def oMade (b : Nat → Nat) (N q : Nat) (nm : NmL) (D : Nat → Nat) : Option Nat := mA b N (mA b N (md (md none ((tnQ b N q nm 1).isSome = true) (ftT b N q)) (D (26 + 4 * gMade b N q nm) = 0) (8 * tP b N q + 2)) (tE b N q) 20 1 9999) (q2 b N (tE b N q)) 21 0 99
/-- behind an assist's WORTH -/
def oAssist1 (b : Nat → Nat) (N q : Nat) (nm : NmL) : Option Nat := mA b N (md none (okG b N q nm) (ftG b N q)) (tE b N q) 14 1 9999
def oAssist (b : Nat → Nat) (N q : Nat) (nm : NmL) : Option Nat := if tG b N (q2 b N (tE b N q)) = 15 then oAssist1 b N q nm else mA b N (oAssist1 b N q nm) (q2 b N (tE b N q)) 16 1 9999
def lAssist (b : Nat → Nat) (N q : Nat) : List Nat := [tV b N (tE b N (tE b N q)), if tG b N (q2 b N (tE b N q)) = 15 then 0 else tV b N (tE b N (q2 b N (tE b N q)))]
def qAssist (b : Nat → Nat) (N q : Nat) : Nat := if tG b N (q2 b N (tE b N q)) = 15 then tE b N (q2 b N (tE b N q)) else q2 b N (q2 b N (tE b N q))
def oRule (b : Nat → Nat) (N q w : Nat) : Option Nat := md none (okN b N q (rLo w) (rHi w)) (ftN b N q)
noncomputable def oKin (b : Nat → Nat) (N q : Nat) (nm : NmL) (D : Nat → Nat) : Option Nat := @md (md (md (md none ((tnQ b N q nm 0).isSome = true) (ftT b N q)) ((tnQ b N (tE b N q) nm 0).isSome = true) (ftT b N (tE b N q))) ((tnQ b N q nm 0).getD 0 ≠ (tnQ b N (tE b N q) nm 0).getD 0) (8 * tP b N (tE b N q) + 4)) (¬ told D ((tnQ b N q nm 0).getD 0) ((tnQ b N (tE b N q) nm 0).getD 0)) (Classical.propDecidable _) (8 * tP b N (tE b N q) + 2)
/-- the names' numbers -/
def NB (nm : NmL) (D : Nat → Nat) : Prop := ∀ x ∈ nm, x.2.2 < D x.2.1
theorem NB.lt {b : Nat → Nat} {N q s c : Nat} {nm : NmL} {D : Nat → Nat} (h : NB nm D) (ht : tnQ b N q nm s = some c) : c < D s := by
  obtain ⟨-, x, hx, x1, x2⟩ := tnQ_isT.mp ht
  have := h x (List.mem_of_getElem? hx)
  rw [x1, x2] at this
  exact this
section CL
variable {n : Nat} {b : Nat → Nat} {N q : Nat} {nm : NmL} {I : Nat → Nat → Int32} {J : Nat → Nat → Int64} {D : Nat → Nat}
theorem C_party (h : CRd b N q nm I J) (hW : WR I 48 D) (h0 : D 0 < 6) (hl : nm.length < 26) : ∃ I' J', mX4_readParty (mk n I J) 94 = some (mk n I' J') ∧ CM b N (md none (okG b N q nm) (ftG b N q)) (tE b N q) (nm ++ [(tW b N q, 0, D 0)]) I' J' ∧ Fw I I' ∧ Go J J' ∧ Rw I I' 0 (D 0 + 1) 0 0 (rowL []) := by
  have w1 : I 49 0 = nI (D 0) := hW.1 0 (by decide)
  obtain ⟨I1, J1, e1, r1, f1, g1, -⟩ := A_give (n := n) (o := none) (s := 0) (c := D 0) h (by decide) (by omega) w1 hl
  have w2 : I1 49 0 = nI (D 0) := by rw [f1.at _ _ (by omega)]; exact w1
  refine ⟨u2 I1 49 0 (nI (D 0 + 1)), J1, ?_, r1.keep (fun a c z => u2_no _ _ (by omega)), fun a c z => by rw [u2_no _ _ (by omega)]; exact f1.fw a c z, g1, u2_at _ _ _ _, fun i hi => by omega, fun a c z1 z2 z3 z4 => by rw [u2_no _ _ (by omega)]; exact f1.at a c (by omega), by rw [u2_no _ _ (by omega)]; exact f1.six⟩
  unfold mX4_readParty
  simp (disch := omega) only [mk_oO o_48, mk_oO o_94, mk_oO o_98, mk_gR f_48_0, mk_gR f_48_1, mk_gR f_48_2, mk_gR f_48_3, mk_gR f_48_4, mk_gR f_48_5, mk_gR f_48_6, mk_gR f_48_7, mk_gR f_94_0, mk_gR f_94_1, mk_gR f_94_2, mk_gR f_94_3, mk_gR f_94_4, mk_gI f_94_5, mk_pI f_94_5, mk_gI f_94_6, mk_pI f_94_6, mk_gI f_94_7, mk_pI f_94_7, mk_gR f_98_0, mk_gR f_98_1, mk_gI f_98_2, mk_pI f_98_2, mk_gI f_98_3, mk_pI f_98_3, mk_gI f_98_4, mk_pI f_98_4, mk_gI f_98_5, mk_pI f_98_5, mk_gI f_98_6, mk_pI f_98_6, mk_gL f_98_7, mk_pL f_98_7, ↓m_1, ↓m_2, i_0, i_1, i_2, i_3, i_4, i_6, i_5, i_12, i_11, i_10, i_9999, i_7, i_9, i_8, i_24, i_100, i_56, i_48, i_13, i_176, i_232, i_224, i_32, i_999, i_99, i_900, i_97, i_90, i_30, i_20, i_59, i_14, i_50, i_29, i_22, i_19, i_18, i_17, i_96, i_61, i_57, i_51, i_41, i_26, i_2552, i_255, i_25, i_23, i_21, i_16, i_15, i_122, i_10000, i_31, dzF, obs, b2_some, rz0, rz1, rzb, n01, n01', n10, n01e, nI_add, nI_mul, ↓reduceIte, not_false_eq_true, not_true_eq_false, ite_not, e1, mk_aIn a_49, w2, mk_sIn a_49]
theorem C_good (h : CRd b N q nm I J) (hW : WR I 48 D) (h1 : D 1 < 6) (hl : nm.length < 26) : ∃ I' J', mX4_readGood (mk n I J) 94 = some (mk n I' J') ∧ CM b N (oGood b N q nm) (q2 b N (q2 b N (tE b N q))) (nm ++ [(tW b N q, 1, D 1)]) I' J' ∧ Fw I I' ∧ Go J J' ∧ (oGood b N q nm = none → Rw I I' 1 (D 1 + 1) (52 + D 1) 4 (rowL (lGood b N q))) := by
  have w1 : I 49 1 = nI (D 1) := hW.1 1 (by decide)
  obtain ⟨I1, J1, e1, r1, f1, g1, -⟩ := A_give (n := n) (o := none) (s := 1) (c := D 1) h (by decide) (by omega) w1 hl
  obtain ⟨I2, J2, e2, r2, f2, g2⟩ := A_expect (n := n) r1 (x := 12) (by decide)
  obtain ⟨I3, J3, e3, r3, f3, g3⟩ := A_number (n := n) r2 (lo := 0) (hi := 9) (by decide) (by decide)
  have v3 : mA b N (md none (okG b N q nm) (ftG b N q)) (tE b N q) 12 0 9 = none → nvl b N (tE b N (tE b N q)) 0 (mA b N (md none (okG b N q nm) (ftG b N q)) (tE b N q) 12 0 9) = tV b N (tE b N (tE b N q)) := fun z => if_pos z
  change _ = some (nI (nvl b N (tE b N (tE b N q)) 0 (mA b N (md none (okG b N q nm) (ftG b N q)) (tE b N q) 12 0 9)), _) at e3
  generalize nvl b N (tE b N (tE b N q)) 0 (mA b N (md none (okG b N q nm) (ftG b N q)) (tE b N q) 12 0 9) = x3 at *
  obtain ⟨I4, J4, e4, r4, f4, g4⟩ := A_expect (n := n) (r3.keep (I' := u2 I3 (52 + D 1) 0 (nI x3)) (fun a c z => u2_no _ _ (by omega))) (x := 13) (by decide)
  obtain ⟨I5, J5, e5, r5, f5, g5⟩ := A_number (n := n) r4 (lo := 0) (hi := 9) (by decide) (by decide)
  have v5 : oGood b N q nm = none → nvl b N (tE b N (q2 b N (tE b N q))) 0 (oGood b N q nm) = tV b N (tE b N (q2 b N (tE b N q))) := fun z => if_pos z
  change _ = some (nI (nvl b N (tE b N (q2 b N (tE b N q))) 0 (oGood b N q nm)), _) at e5
  generalize nvl b N (tE b N (q2 b N (tE b N q))) 0 (oGood b N q nm) = x5 at *
  have w5 : I5 49 1 = nI (D 1) := by simp (disch := omega) only [f5.at, f4.at, u2_no, f3.at, f2.at, f1.at, w1]
  refine ⟨u2 (u2 (u2 (u2 I5 (52 + D 1) 1 (nI x5)) (52 + D 1) 2 (nI 0)) (52 + D 1) 3 (nI 0)) 49 1 (nI (D 1 + 1)), J5, ?_, r5.keep (fun a c z => by simp (disch := omega) only [u2_no]), fun a c z => by simp (disch := omega) only [u2_no, f5.at, f4.at, f3.at, f2.at, f1.at], ((((g1.trans g2).trans g3).trans g4).trans g5), fun ok => ?_⟩
  · unfold mX4_readGood
    simp (disch := omega) only [mk_oO o_48, mk_oO o_94, mk_oO o_98, mk_gR f_48_0, mk_gR f_48_1, mk_gR f_48_2, mk_gR f_48_3, mk_gR f_48_4, mk_gR f_48_5, mk_gR f_48_6, mk_gR f_48_7, mk_gR f_94_0, mk_gR f_94_1, mk_gR f_94_2, mk_gR f_94_3, mk_gR f_94_4, mk_gI f_94_5, mk_pI f_94_5, mk_gI f_94_6, mk_pI f_94_6, mk_gI f_94_7, mk_pI f_94_7, mk_gR f_98_0, mk_gR f_98_1, mk_gI f_98_2, mk_pI f_98_2, mk_gI f_98_3, mk_pI f_98_3, mk_gI f_98_4, mk_pI f_98_4, mk_gI f_98_5, mk_pI f_98_5, mk_gI f_98_6, mk_pI f_98_6, mk_gL f_98_7, mk_pL f_98_7, ↓m_1, ↓m_2, i_0, i_1, i_2, i_3, i_4, i_6, i_5, i_12, i_11, i_10, i_9999, i_7, i_9, i_8, i_24, i_100, i_56, i_48, i_13, i_176, i_232, i_224, i_32, i_999, i_99, i_900, i_97, i_90, i_30, i_20, i_59, i_14, i_50, i_29, i_22, i_19, i_18, i_17, i_96, i_61, i_57, i_51, i_41, i_26, i_2552, i_255, i_25, i_23, i_21, i_16, i_15, i_122, i_10000, i_31, dzF, obs, b2_some, rz0, rz1, rzb, n01, n01', n10, n01e, nI_add, nI_mul, ↓reduceIte, not_false_eq_true, not_true_eq_false, ite_not, mk_aIn a_49, w1, mk_aRn a_51 (q_51 _ h1), e1, e2, e3, mk_sIn (r_51 _ h1), e4, e5, u2_no, w5, mk_sIn a_49]
  · have ok' := (mA_none.mp ok).1
    rw [v3 ok', v5 ok] at *
    refine ⟨u2_at _ _ _ _, fun i hi => ?_, fun a c z1 z2 z3 z4 => by simp (disch := omega) only [u2_no, f5.at, f4.at, f3.at, f2.at, f1.at], by simp (disch := omega) only [u2_no, f5.six, f4.six, f3.six, f2.six, f1.six]⟩
    rcases (by omega : i = 0 ∨ i = 1 ∨ i = 2 ∨ i = 3) with rfl | rfl | rfl | rfl
    · show _ = nI (tV b N (tE b N (tE b N q)))
      simp (disch := omega) only [u2_no, f5.at, f4.at, u2_at]
    · show _ = nI (tV b N (tE b N (q2 b N (tE b N q))))
      simp (disch := omega) only [u2_no, u2_at]
    · show _ = nI 0
      simp (disch := omega) only [u2_no, u2_at]
    · show _ = nI 0
      simp (disch := omega) only [u2_no, u2_at]
end CL
