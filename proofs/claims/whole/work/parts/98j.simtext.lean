/-! ===== 98j: text ===== -/
section XT
variable {I I' : Nat → Nat → Int32} {J J' : Nat → Nat → Int64} {T : Nat → Nat}
theorem KP.fr {k b : Nat} (hb : b = 134 ∨ b = 179) (h : KP I J T k b) (hI : ∀ a c, (a = 0 ∧ c = 10) ∨ (134 ≤ a ∧ a ≤ 223) ∨ a = 228 ∨ a = 229 → I' a c = I a c) (hJ : ∀ a c, a = 29 ∨ a = 160 ∨ a = 205 → J' a c = J a c) : KP I' J' T k b := by
  have e1 : I' 229 k = I 229 k := hI _ _ (by omega)
  have e2 : I' 0 10 = I 0 10 := hI _ _ (by omega)
  refine ⟨by rw [e1, e2]; exact h.1, fun hz => ?_⟩
  rw [e1] at hz
  obtain ⟨K, k1, k2, k3, k4, k5⟩ := h.2 hz
  refine ⟨K, k1, k2, k3.scr k1 (fun a c h1 h2 => hI _ _ (by omega)), fun j hj => by rw [hI _ _ (by omega)]; exact k4 j hj, fun s hs => ?_⟩
  rw [hJ _ _ (by omega), hJ _ _ (by omega)]
  exact k5 s hs
/-- the tape is read away, all else stays -/
theorem INV.tape (h : INV I J) (h1 : I' 1 1 = nI 0) (h8 : I' 224 8 = nI 0) (hI : ∀ a c, (a = 0 ∧ c = 10) ∨ (3 ≤ a ∧ a ≤ 47) ∨ (118 ≤ a ∧ a ≤ 131) ∨ (134 ≤ a ∧ a ≤ 223) ∨ (a = 224 ∧ (c = 6 ∨ c = 23)) ∨ a = 225 ∨ a = 227 ∨ a = 228 ∨ a = 229 → I' a c = I a c) (hJ : ∀ a c, relJ a → J' a c = J a c) : INV I' J' := by
  obtain ⟨T, hT, hN, hW, -, hM, hK0, hK1, ⟨u, nx, P, u1, u2, u3, u4, u5, u6, u7⟩, hG, hg⟩ := h
  have kp : ∀ {k b : Nat}, b = 134 ∨ b = 179 → KP I J T k b → KP I' J' T k b := fun hb hk => hk.fr hb (fun a c z => hI a c (by omega)) (fun a c z => hJ a c (by unfold relJ; omega))
  refine ⟨T, hT, fun j hj => by rw [hI _ _ (by omega)]; exact hN j hj, hW.scr hT (fun a c z1 z2 => hI _ _ (by omega)), ⟨0, by omega, h1, h8, fun k hk => by omega⟩, fun s hs => by rw [hJ _ _ (by unfold relJ; omega), hJ _ _ (by unfold relJ; omega)]; exact hM s hs, kp (Or.inl rfl) hK0, kp (Or.inr rfl) hK1, ⟨u, nx, P, u1, u2, by rw [hI _ _ (by omega)]; exact u3, by rw [hI _ _ (by omega)]; exact u4, by rw [hI _ _ (by omega)]; exact u5, u6, fun j hj => ?_⟩, fun i hi => by rw [hJ _ _ (by unfold relJ; omega)]; exact hG i hi, by rw [hI _ _ (by omega)]; exact hg⟩
  obtain ⟨w1, w2, w3, w4⟩ := u7 j hj
  refine ⟨w1, w2, fun k hk => by rw [hI _ _ (by omega)]; exact w3 k hk, ?_⟩
  have hm : (nx + 23 - j) % 12 < 12 := Nat.mod_lt _ (by decide)
  rw [show I' (120 + (nx + 23 - j) % 12) = I (120 + (nx + 23 - j) % 12) from funext fun c => hI _ _ (by omega)]
  exact w4
theorem KP.none {k b : Nat} (hk : k < 2) (h1 : I 229 k = nI 0) (h2 : I 0 10 = nI 0) : KP I J T k b := by
  refine ⟨⟨0, by decide, h1, ?_⟩, fun z => ?_⟩
  · rw [h2]
    rcases (by omega : k = 0 ∨ k = 1) with rfl | rfl <;> decide
  · rw [h1] at z
    exact absurd z (by decide)
theorem neg_f {f : Nat} (hf : f < 100000) : (-2 : Int32) - nI f < 0 := by
  rw [Int32.lt_iff_toInt_lt, Int32.toInt_sub, nI_toInt (by omega)]
  show Int.bmod (-2 - (f : Int)) (2 ^ 32) < 0
  have : Int.bmod (-2 - (f : Int)) (2 ^ 32) = -2 - (f : Int) := Int.bmod_eq_of_le (by omega) (by omega)
  omega
theorem sim_text : SIM_text Inv 0 224 := by
  intro h c1 hI
  obtain ⟨n, I, J, rfl, hI⟩ := hI
  obtain ⟨T, hT, hN, hW, ⟨p, p1, p2, p3, p4⟩, hM, hK0, hK1, hA, hG, hg⟩ := id hI
  have p3' : u2 I 224 0 (nI 0) 224 8 = nI p := by rw [u2_no _ _ (by omega)]; exact p3
  have bad : ¬ (((0 : Nat) : Int) ≤ c1.toInt ∧ c1.toInt ≤ (p : Int)) → mX10_text (mk n I J) 224 c1 = some ((-1 : Int32), mk n (u2 I 224 0 (nI 0)) J) := fun hb => by
    unfold mX10_text
    have w := within0 (h := mk n (u2 I 224 0 (nI 0)) J) (x := c1) (a := 0) (m := p) (by omega) (by omega) hb
    rw [← nI_l (by omega : p < 2 ^ 31)] at w
    rw [mk_oO o_224, i_0, mk_pI f_224_0, obs, mk_gI f_224_8, obs, p3', show (0 : Int64) = lN 0 from rfl, w, b2_some, if_pos rfl]
  by_cases hneg : c1 < 0
  · refine ⟨_, _, _, ?_, bad ?_, hI.fin0 (scrt.refl _ _)⟩
    · unfold mX9_text
      rw [mk_oO o_0, if_pos hneg]
    · have : c1.toInt < 0 := Int32.lt_iff_toInt_lt.mp hneg
      omega
  obtain ⟨N, hN31, rfl⟩ : ∃ N, N < 2 ^ 31 ∧ c1 = nI N := by
    rcases m1_cases c1 with z | z | z
    · exfalso
      have z' : ¬ M1 ≤ c1 := of_eq_false z
      rw [Int32.le_iff_toInt_le] at z'
      rw [Int32.lt_iff_toInt_lt] at hneg
      have e1 : M1.toInt = -1 := rfl
      have e2 : (0 : Int32).toInt = 0 := rfl
      omega
    · rw [z] at hneg
      exact absurd (by decide : M1 < 0) hneg
    · exact z
  by_cases hNp : N ≤ p
  rotate_left
  · refine ⟨_, _, _, ?_, bad ?_, hI.fin0 (scrt.refl _ _)⟩
    · unfold mX9_text
      rw [mk_oO o_0, if_neg hneg, mk_gR f_0_0, obs, mk_gI f_1_1, obs, p2, if_neg (of_eq_false (leF (by omega) (by omega)))]
    · rw [nI_toInt hN31]
      omega
  obtain ⟨b, hb⟩ : ∃ b : Nat → Nat, ∀ k, k < p → BYv (I 2 k) (b k) := by
    refine ⟨fun k => if hk : k < p then Classical.choose (byv_of (p4 k hk).2) else 0, fun k hk => ?_⟩
    show BYv (I 2 k) (if hk : k < p then _ else 0)
    rw [dif_pos hk]
    exact Classical.choose_spec (byv_of (p4 k hk).2)
  obtain ⟨I1, J1, e1, f1, g1, w1, fb, lb⟩ := C_read (n := n) (b := b) (N := N) (I := I) (J := J) (by omega) (fun k hk => hb k (by omega)) hG
  -- the reference, on what the class leaves
  have ref : ∀ (X : Nat → Nat → Int32) (Y : Nat → Nat → Int64), (∀ a c, 224 ≤ a → X a c = I a c) → ∃ X' Y', (∀ a c, ¬ (a = 224 ∧ (c = 0 ∨ (8 ≤ c ∧ c ≤ 16) ∨ c = 20 ∨ c = 22)) → a ≠ 226 → a ≠ 232 → a ≠ 233 → X' a c = X a c) ∧ X' 224 8 = nI 0 ∧ Gq Y Y' ∧ ((∃ f, (rdF b N (N + 1) 0 [] D0 0 0).1 = some f ∧ mX10_text (mk n X Y) 224 (nI N) = some ((-2 : Int32) - nI f, mk n X' Y')) ∨ ((rdF b N (N + 1) 0 [] D0 0 0).1 = none ∧ mX10_text (mk n X Y) 224 (nI N) = tailT (mk n X' Y') (nI (rdF b N (N + 1) 0 [] D0 0 0).2.1) ∧ NR X' 226 0 (rdF b N (N + 1) 0 [] D0 0 0).2.2.2 ∧ RNm (rdF b N (N + 1) 0 [] D0 0 0).2.2.1 X' Y')) := by
    intro X Y hX
    obtain ⟨I2, J2, e2, r2, n2, u2', z2, f2, g2⟩ := R_text (n := n) (b := b) (N := N) (p := p) (I := X) (J := Y) hNp p1 (by rw [hX _ _ (by omega)]; exact p3) (fun k hk => by
      have hbk := hb k (by omega)
      refine ⟨hbk.1, ?_⟩
      rw [hX _ _ (by omega), ← (p4 k (by omega)).1]
      exact hbk.2.1)
    obtain ⟨I3, J3, f3, g3, e3⟩ := R_loop (n := n) (b := b) (N := N) (N + 1) 0 0 FU I2 J2 [] D0 0 (by omega) (by unfold FU; omega) PI_D0 r2 n2 u2'
    refine ⟨I3, J3, fun a c y1 y2 y3 y4 => by rw [f3 a c (by omega) y2 y3 y4, f2 a c (by omega) (by omega) y2], by rw [f3 _ _ (by omega) (by omega) (by omega) (by omega)]; exact z2, g2.trans g3, ?_⟩
    rw [e2]
    exact e3
  have hle : nI N ≤ nI p := of_eq_true (leT hNp (by omega))
  cases hr : (rdF b N (N + 1) 0 [] D0 0 0).1 with
  | some f =>
    obtain ⟨X', Y', fx, x8, gy, hx⟩ := ref (u2 I1 1 1 (nI 0)) J1 (fun a c z => by rw [u2_no _ _ (by omega), f1 a c (by omega)])
    rcases hx with ⟨f', hf', et⟩ | ⟨hn, -⟩
    · rw [hr] at hf'
      cases hf'
      refine ⟨(-2 : Int32) - nI f, mk n (u2 I1 1 1 (nI 0)) J1, mk n X' Y', ?_, et, n, X', Y', rfl, hI.tape ?_ x8 (fun a c z => ?_) (fun a c z => ?_)⟩
      · unfold mX9_text
        rw [mk_oO o_0, if_neg hneg, mk_gR f_0_0, obs, mk_gI f_1_1, obs, p2, if_pos hle, mk_gR f_0_4, obs, e1, b2_some, mk_gR f_0_0, obs, i_0, mk_pI f_1_1, obs, hr]
        show (if (-2 : Int32) - nI f < nI 0 then _ else _) = _
        rw [if_pos (show (-2 : Int32) - nI f < nI 0 from neg_f (fb f hr))]
        rfl
      · rw [fx _ _ (by omega) (by omega) (by omega) (by omega), u2_at]
      · rw [fx _ _ (by omega) (by omega) (by omega) (by omega), u2_no _ _ (by omega), f1 _ _ (by omega)]
      · unfold relJ at z
        rw [gy _ _ (by omega) (by omega), g1 _ _ (by omega) (by omega) (by omega)]
    · rw [hr] at hn; cases hn
  | none =>
    obtain ⟨hP, ho, wD, sn⟩ := w1 hr
    have hU : ∀ y ∈ (rdF b N (N + 1) 0 [] D0 0 0).2.2.1, ∀ z ∈ (rdF b N (N + 1) 0 [] D0 0 0).2.2.1, y.2.1 = 3 → z.2.1 = 3 → y.2.2 = z.2.2 → y.1 = z.1 := fun y hy z hz y3 z3 hyz => by
      have a1 := sn.1 y hy y3
      have a2 := sn.1 z hz z3
      rw [hyz, a2] at a1
      have wy := (ho.2.1 y hy).1
      have wz := (ho.2.1 z hz).1
      have by1 : enc 27 y.1 < 10460353203 := enc_lt (by decide) 7 _ wy.2.1 wy.2.2
      have bz1 : enc 27 z.1 < 10460353203 := enc_lt (by decide) 7 _ wz.2.1 wz.2.2
      exact (enc_inj (by decide) wz.2.2 wy.2.2 ((lL_eq (by omega) (by omega)).mp a1)).symm
    obtain ⟨I4, e4, f4, t4⟩ := C_take (n := n) (u2 I1 1 1 (nI 0)) J1 (b1 := 48) (b0 := 3) (by unfold isWd; omega) (by unfold isWd; omega) (by decide)
    have W3 := t4 _ hP.1 (wD.scr hP.1 (fun a c z1 z2 => u2_no _ _ (by omega)))
    obtain ⟨X', Y', fx, x8, gy, hx⟩ := ref (u2 (u2 I4 118 2 (nI 0)) 0 10 (nI 0)) (cpR J1 74 29 10) (fun a c z => by rw [u2_no _ _ (by omega), u2_no _ _ (by omega), f4 _ _ (by omega), u2_no _ _ (by omega), f1 a c (by omega)])
    rcases hx with ⟨f', hf', -⟩ | ⟨-, et, nr, rn⟩
    · rw [hr] at hf'; cases hf'
    obtain ⟨Z, Q, ez, n225, z6, z0, z1, fz, gz, dz⟩ := R_tail (n := n) (x := nI (rdF b N (N + 1) 0 [] D0 0 0).2.1) ho hU nr rn
    have all : ∀ a c, a < 224 → Z a c = u2 (u2 I4 118 2 (nI 0)) 0 10 (nI 0) a c := fun a c z => by rw [fz _ _ (by omega) (by omega) (by omega), fx _ _ (by omega) (by omega) (by omega) (by omega)]
    refine ⟨nI (rdF b N (N + 1) 0 [] D0 0 0).2.1, mk n (u2 (u2 I4 118 2 (nI 0)) 0 10 (nI 0)) (cpR J1 74 29 10), mk n Z Q, ?_, et.trans ez, n, Z, Q, rfl, (rdF b N (N + 1) 0 [] D0 0 0).2.2.2, hP.1, n225, ?_, ⟨0, by omega, ?_, ?_, fun k hk => by omega⟩, fun s hs => ?_, KP.none (by decide) z0 ?_, KP.none (by decide) z1 ?_, ?_, fun i hi => ?_, ?_⟩
    · unfold mX9_text mX0_clear
      rw [mk_oO o_0, if_neg hneg, mk_gR f_0_0, obs, mk_gI f_1_1, obs, p2, if_pos hle, mk_gR f_0_4, obs, e1, b2_some, mk_gR f_0_0, obs, i_0, mk_pI f_1_1, obs, hr]
      show (if nI (rdF b N (N + 1) 0 [] D0 0 0).2.1 < nI 0 then _ else _) = _
      rw [if_neg (of_eq_false (nlt0 (by omega))), mk_gR f_0_1, obs, mk_gR f_0_2, obs, e4, obs, mk_gR f_0_8, obs, mk_oO o_118, mk_pI f_118_2, obs, obs, mk_pI f_0_10, obs]
      rfl
    · exact W3.scr hP.1 (fun a c y1 y2 => by rw [all _ _ (by omega), u2_no _ _ (by omega), u2_no _ _ (by omega)])
    · rw [all _ _ (by omega), u2_no _ _ (by omega), u2_no _ _ (by omega), f4 _ _ (by omega), u2_at]
    · rw [fz _ _ (by omega) (by omega) (by omega)]; exact x8
    · obtain ⟨x, hx, x3, xs⟩ := sn.2 s hs
      have hs10 := hP.1.1.2.2.2.1
      refine ⟨x.1, (ho.2.1 x hx).1, ?_, ?_⟩
      · rw [gz _ _ (by omega), gy _ _ (by omega) (by omega), cpR_at _ (by omega), ← xs]
        exact sn.1 x hx x3
      · rw [← xs]; exact dz x hx x3
    · rw [all _ _ (by omega), u2_at]
    · rw [all _ _ (by omega), u2_at]
    · obtain ⟨u, nx, P, y1, y2, y3, y4, -⟩ := hA
      refine ⟨0, nx, fun _ => (rdF b N (N + 1) 0 [] D0 0 0).2.2.2, by omega, y2, ?_, ?_, z6, rfl, fun j hj => by omega⟩
      · rw [all _ _ (by omega), u2_no _ _ (by omega), u2_at]
      · rw [all _ _ (by omega), u2_no _ _ (by omega), u2_no _ _ (by omega), f4 _ _ (by omega), u2_no _ _ (by omega), f1 _ _ (by omega)]; exact y4
    · rw [gz _ _ (by omega), gy _ _ (by omega) (by omega), cpR_no _ (by omega), g1 _ _ (by omega) (by omega) (by omega)]; exact hG i hi
    · rw [fz _ _ (by omega) (by omega) (by omega), fx _ _ (by omega) (by omega) (by omega) (by omega), u2_no _ _ (by omega), u2_no _ _ (by omega), f4 _ _ (by omega), u2_no _ _ (by omega), f1 _ _ (by omega)]; exact hg
end XT
