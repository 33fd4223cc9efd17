/-! ===== 92: the extras, the class's ===== -/
def exT (r4 : PH → Nat → Nat → Int32 → Int32 → Option (PH)) (h22 : PH) (a1 : Nat) (x2 x3 v29 v38 : Int32) : Option PH :=
  if v38 = (3 : Int32) then (some h22) else (
  if v29 < (24 : Int32) then (mX4_readExtras_b60 r4 h22 94 a1 x2 x3) else (
  if v29 ≤ (29 : Int32) then (
  if v29 = (29 : Int32) then (
  b2 (mX4_toldOf h22 94 (2 : Int32)) fun v78 h78 =>
  (aI 0 h78 a1 (11 : Int32)).bind fun v87 =>
  if (v87 &&& ((1 : Int32) <<< (v78 &&& 31))) = 0 then (
  mX4_readExtras_b99 r4 h78 94 a1 x2 x3 ((1 : Int32) <<< (v78 &&& 31))) else (
  (mX4_fail h78 94 (2 : Int32)).bind fun h96 =>
  mX4_readExtras_b99 r4 h96 94 a1 x2 x3 ((1 : Int32) <<< (v78 &&& 31)))) else (
  if ((x2 >>> (v29 &&& 31)) &&& (1 : Int32)) = 0 then (
  if v29 = (24 : Int32) then (
  mX4_readExtras_b175 r4 h22 94 a1 (x2 ||| ((1 : Int32) <<< (v29 &&& 31))) x3 a1 (((6 : Int32) + v29) - (24 : Int32)) (1 : Int32)) else (
  if v29 = (25 : Int32) then (
  mX4_readExtras_b172 r4 h22 94 a1 (x2 ||| ((1 : Int32) <<< (v29 &&& 31))) x3 a1 (((6 : Int32) + v29) - (24 : Int32)) 94 (0 : Int32) (99 : Int32)) else (
  mX4_readExtras_b172 r4 h22 94 a1 (x2 ||| ((1 : Int32) <<< (v29 &&& 31))) x3 a1 (((6 : Int32) + v29) - (24 : Int32)) 94 (0 : Int32) (9999 : Int32)))) else (
  (mX4_fail h22 94 (2 : Int32)).bind fun h122 =>
  r4 h122 94 a1 x2 (x3 + 1)))) else (mX4_readExtras_b60 r4 h22 94 a1 x2 x3)))
section EL
variable {n : Nat} {b : Nat → Nat} {N : Nat} {nm : NmL}
theorem E_head {q i fu rc : Nat} {I : Nat → Nat → Int32} {J : Nat → Nat → Int64} (h : CRd b N q nm I J) (hi : i < 900) (m : Int32) : ∃ I1 J1, mX4_readExtras_L4 (fu + 1) (mk n I J) 94 rc m (nI i) = exT (mX4_readExtras_L4 fu) (mk n I1 J1) rc m (nI i) (ixW (tG b N q)) (nI (tK b N q)) ∧ CRd b N (tE b N q) nm I1 J1 ∧ Fo I I1 ∧ Go J J1 ∧ I1 98 4 = nI (tP b N q) ∧ ∀ k, 1 ≤ k ∧ k < 8 → FRd b N (8 * tP b N q + k) (u2 I1 94 7 (nI (8 * tP b N q + k))) J1 := by
  obtain ⟨I1, J1, e, f1, g1, a3, a4, a5, a6, -, -⟩ := C_next (n := n) h.1 h.2.1 h.2.2.1
  refine ⟨I1, J1, ?_, h.ok f1 g1 a3, f1.fo, g1.go, a4, fun k hk => (h.bad f1 g1 a3 hk).1⟩
  have h7 := h.2.2.2.1
  show mX4_readExtras_b4 _ _ _ _ _ _ = _
  unfold mX4_readExtras_b4
  rw [i_900, if_neg (of_eq_false (leF (by omega) (by omega))), mk_gI f_94_7, obs, h7, if_pos (show nI 0 = 0 from rfl), mk_gR f_94_0, obs, e, obs, mk_gR f_94_0, obs, mk_gI f_98_6, obs, obs, mk_gI f_98_5, obs, a5, a6]
  rfl
theorem E_loop {rc : Nat} (hrc : isI rc 0 12 = true) (hr : 64 ≤ rc ∧ rc < 74) {D : Nat → Nat} (hB : NB nm D) (h2 : D 2 ≤ 4) : ∀ (k q i fu : Nat) (I : Nat → Nat → Int32) (J : Nat → Nat → Int64) (R : Nat → Nat) (m : Nat), N - q < k → k < fu → i + (N - q) ≤ 899 → CRd b N q nm I J → (∀ j, j < 12 → I rc j = nI (R j)) → rOK R → m < 2 ^ 30 → ∃ I' J', mX4_readExtras_L4 fu (mk n I J) 94 rc (nI m) (nI i) = some (mk n I' J') ∧ CM b N (md (exS b N nm k q R m).1 (tK b N (exS b N nm k q R m).2.1 = 3) (8 * tP b N (exS b N nm k q R m).2.1 + 1)) (tE b N (exS b N nm k q R m).2.1) nm I' J' ∧ (∀ a c, a < 94 ∨ 99 ≤ a → a ≠ rc → I' a c = I a c) ∧ I' 94 6 = I 94 6 ∧ Go J J' ∧ ((exS b N nm k q R m).1 = none → ∀ j, j < 12 → I' rc j = nI ((exS b N nm k q R m).2.2 j)) := by
  intro k
  induction k with
  | zero => intro q i fu I J R m h1; exact absurd h1 (Nat.not_lt_zero _)
  | succ k ih =>
    intro q i fu I J R m hk hf hi h hR ho hm
    obtain ⟨fu, rfl⟩ : ∃ f, fu = f + 1 := ⟨fu - 1, by omega⟩
    have hN := h.1.1
    have hq := h.2.1
    have hg := tG_le (b := b) (N := N) q
    have hK := tK_le4 (b := b) (N := N) q
    have p1 := tE_in (b := b) hq
    have p2 := tE_in (b := b) p1.2
    have pp := tP_in (b := b) (N := N) hq
    have pp2 := tP_in (b := b) (N := N) p1.2
    obtain ⟨I1, J1, e, h1, f1, g1, a4, bad⟩ := E_head (n := n) (rc := rc) (fu := fu) h (by omega : i < 900) (nI m)
    have h17 := h1.2.2.2.1
    have hR1 : ∀ j, j < 12 → I1 rc j = nI (R j) := fun j hj => by rw [f1.at _ _ (by omega)]; exact hR j hj
    -- a fault at the token q
    have fin1 : ∀ kd, 1 ≤ kd ∧ kd < 8 → mX4_readExtras_L4 fu (mk n (u2 I1 94 7 (nI (8 * tP b N q + kd))) J1) 94 rc (nI m) (nI (i + 1)) = some (mk n (u2 I1 94 7 (nI (8 * tP b N q + kd))) J1) := fun kd hkd => E_stop (bad kd hkd) _ (by omega) (by omega)
    have fr1 : ∀ kd, (∀ a c, a < 94 ∨ 99 ≤ a → a ≠ rc → u2 I1 94 7 (nI (8 * tP b N q + kd)) a c = I a c) ∧ u2 I1 94 7 (nI (8 * tP b N q + kd)) 94 6 = I 94 6 := fun kd => ⟨fun a c z _ => by rw [u2_no _ _ (by omega)]; exact f1.at a c z, by rw [u2_no _ _ (by omega)]; exact f1.six⟩
    by_cases hA : tG b N q < 24 ∨ tG b N q = 30
    · have er : exS b N nm (k + 1) q R m = (none, q, R) := by rw [exS, if_pos hA]
      rw [er]
      dsimp only
      by_cases h3 : tK b N q = 3
      · refine ⟨I1, J1, ?_, by rw [md_ok h3]; exact h1, fun a c z _ => f1.at a c z, f1.six, g1, fun _ => hR1⟩
        rw [e]
        unfold exT
        rw [h3, if_pos (show nI 3 = 3 from rfl)]
      · refine ⟨_, J1, ?_, by rw [md_no h3]; exact bad 1 (by omega), (fr1 1).1, (fr1 1).2, g1, fun _ j hj => by rw [u2_no _ _ (by omega)]; exact hR1 j hj⟩
        rw [e, ← fin1 1 (by omega)]
        have e60 : mX4_readExtras_b60 (mX4_readExtras_L4 fu) (mk n I1 J1) 94 rc (nI m) (nI i) = mX4_readExtras_L4 fu (mk n (u2 I1 94 7 (nI (8 * tP b N q + 1))) J1) 94 rc (nI m) (nI (i + 1)) := by
          unfold mX4_readExtras_b60
          rw [i_1, fail0 h17 a4, obs, nI_add]
        unfold exT
        rcases hA with z | z
        · have ex : ixW (tG b N q) = nI (tG b N q) := if_neg (by omega)
          rw [ex, i_3, i_24, if_neg (of_eq_false (eqF h3 (by omega) (by omega))), if_pos (of_eq_true (ltT (by omega) (by omega))), e60]
        · have ex : ixW (tG b N q) = M1 := if_pos z
          rw [ex, i_3, i_24, if_neg (of_eq_false (eqF h3 (by omega) (by omega))), if_pos (of_eq_true M1_24), e60]
    · obtain ⟨hK1, hlt⟩ := tG_pro hq (fun z => hA (Or.inr z))
      have ex : ixW (tG b N q) = nI (tG b N q) := if_neg (fun z => hA (Or.inr z))
      have hG : 24 ≤ tG b N q ∧ tG b N q ≤ 29 := by omega
      rw [ex, hK1] at e
      by_cases h29 : tG b N q = 29
      · obtain ⟨I2, J2, e2, r2, f2, g2, a42⟩ := A_told (n := n) (o := none) (s := 2) h1 (by decide)
        change _ = some (nI ((tnQ b N (tE b N q) nm 2).getD 0), _) at e2
        have ha4 := tn_lt (b := b) (N := N) (q := tE b N q) hB h2 (by decide)
        have hR2 : ∀ j, j < 12 → I2 rc j = nI (R j) := fun j hj => by rw [f2.at _ _ (by omega)]; exact hR1 j hj
        obtain ⟨I3, e3, r3, f3⟩ := A_fail (n := n) r2 (p := tP b N (tE b N q)) (k := 2) (by omega) (by omega) a42
        have hR3 : I3 rc 11 = nI (R 11) := by rw [f3.at _ _ (by omega)]; exact hR2 11 (by decide)
        have h16 := ho.2.2.1
        -- the way on, with or without the test's fault
        have step : ∀ a, (tnQ b N (tE b N q) nm 2).getD 0 = a → ((R 11).testBit a = true → mX4_readExtras_L4 (fu + 1) (mk n I J) 94 rc (nI m) (nI i) = mX4_readExtras_L4 fu (mk n (u2 I3 rc 11 (nI (R 11 ||| 2 ^ a))) J2) 94 rc (nI m) (nI (i + 1))) ∧ (¬ (R 11).testBit a = true → mX4_readExtras_L4 (fu + 1) (mk n I J) 94 rc (nI m) (nI i) = mX4_readExtras_L4 fu (mk n (u2 I2 rc 11 (nI (R 11 ||| 2 ^ a))) J2) 94 rc (nI m) (nI (i + 1))) := by
          intro a ha
          rw [ha] at e2 ha4
          have et : exT (mX4_readExtras_L4 fu) (mk n I1 J1) rc (nI m) (nI i) (nI (tG b N q)) (nI 1) = if nI (R 11) &&& nI (2 ^ a) = nI 0 then mX4_readExtras_b99 (mX4_readExtras_L4 fu) (mk n I2 J2) 94 rc (nI m) (nI i) (nI (2 ^ a)) else mX4_readExtras_b99 (mX4_readExtras_L4 fu) (mk n I3 J2) 94 rc (nI m) (nI i) (nI (2 ^ a)) := by
            unfold exT
            rw [h29, if_neg (show ¬ nI 1 = 3 by decide), if_neg (show ¬ nI 29 < 24 by decide), if_pos (show nI 29 ≤ 29 by decide), if_pos (show nI 29 = 29 by decide), i_2, e2, b2_some, i_11, mk_aIn hrc (by decide) (by decide), obs, hR2 11 (by decide), i_1, i_31, nI_one_shl (by omega), e3, obs]
            rfl
          have e99 : ∀ X : Nat → Nat → Int32, X rc 11 = nI (R 11) → mX4_readExtras_b99 (mX4_readExtras_L4 fu) (mk n X J2) 94 rc (nI m) (nI i) (nI (2 ^ a)) = mX4_readExtras_L4 fu (mk n (u2 X rc 11 (nI (R 11 ||| 2 ^ a))) J2) 94 rc (nI m) (nI (i + 1)) := fun X hX => by
            unfold mX4_readExtras_b99
            rw [i_11, mk_aIn hrc (by decide) (by decide), obs, hX, nI_or, mk_sIn hrc (by decide) (by decide), obs, i_1, nI_add]
          constructor
          · intro hb
            rw [e, et, if_neg (by rw [and_p0 h16 ha4]; exact fun w => w hb), e99 I3 hR3]
          · intro hb
            rw [e, et, if_pos (by rw [and_p0 h16 ha4]; exact hb), e99 I2 (hR2 11 (by decide))]
        have fr2 : ∀ x : Int32, (∀ a c, a < 94 ∨ 99 ≤ a → a ≠ rc → u2 I2 rc 11 x a c = I a c) ∧ u2 I2 rc 11 x 94 6 = I 94 6 := fun x => ⟨fun a c z z2 => by rw [u2_no _ _ (by omega), f2.at a c z, f1.at a c z], by rw [u2_no _ _ (by omega), f2.six, f1.six]⟩
        have fr3 : ∀ x : Int32, (∀ a c, a < 94 ∨ 99 ≤ a → a ≠ rc → u2 I3 rc 11 x a c = I a c) ∧ u2 I3 rc 11 x 94 6 = I 94 6 := fun x => ⟨fun a c z z2 => by rw [u2_no _ _ (by omega), f3.at a c z, f2.at a c z, f1.at a c z], by rw [u2_no _ _ (by omega), f3.six, f2.six, f1.six]⟩
        cases ht : tnQ b N (tE b N q) nm 2 with
        | none =>
          have er : exS b N nm (k + 1) q R m = (some (ftT b N (tE b N q)), q, R) := by rw [exS, if_neg hA, if_pos h29, ht]
          rw [er]
          dsimp only
          rw [ht] at r2 r3
          have r2' : FRd b N (ftT b N (tE b N q)) I2 J2 := r2
          have r3' : FRd b N (ftT b N (tE b N q)) I3 J2 := r3
          obtain ⟨s1, s2⟩ := step 0 (by rw [ht]; rfl)
          by_cases hb : (R 11).testBit 0 = true
          · have w := r3'.keep (I' := u2 I3 rc 11 (nI (R 11 ||| 2 ^ 0))) (fun a c z => u2_no _ _ (by omega))
            refine ⟨_, J2, (s1 hb).trans (E_stop w _ (by omega) (by omega)), w, (fr3 _).1, (fr3 _).2, g1.trans g2, fun z => by cases z⟩
          · have w := r2'.keep (I' := u2 I2 rc 11 (nI (R 11 ||| 2 ^ 0))) (fun a c z => u2_no _ _ (by omega))
            refine ⟨_, J2, (s2 hb).trans (E_stop w _ (by omega) (by omega)), w, (fr2 _).1, (fr2 _).2, g1.trans g2, fun z => by cases z⟩
        | some a =>
          have ha : a < 4 := by
            have := hB.lt ht
            omega
          obtain ⟨s1, s2⟩ := step a (by rw [ht]; rfl)
          rw [ht] at r2 r3
          by_cases hb : (R 11).testBit a = true
          · have er : exS b N nm (k + 1) q R m = (some (8 * tP b N (tE b N q) + 2), q, R) := by rw [exS, if_neg hA, if_pos h29, ht]; exact if_pos hb
            rw [er]
            dsimp only
            have r3' : FRd b N (8 * tP b N (tE b N q) + 2) I3 J2 := r3
            have w := r3'.keep (I' := u2 I3 rc 11 (nI (R 11 ||| 2 ^ a))) (fun a c z => u2_no _ _ (by omega))
            refine ⟨_, J2, (s1 hb).trans (E_stop w _ (by omega) (by omega)), w, (fr3 _).1, (fr3 _).2, g1.trans g2, fun z => by cases z⟩
          · have er : exS b N nm (k + 1) q R m = exS b N nm k (tE b N (tE b N q)) (uT R 11 (R 11 ||| 2 ^ a)) m := by rw [exS, if_neg hA, if_pos h29, ht]; exact if_neg hb
            rw [er]
            have r2' : CRd b N (tE b N (tE b N q)) nm I2 J2 := r2
            obtain ⟨I', J', x1, x2, x3, x4, x5, x6⟩ := ih (tE b N (tE b N q)) (i + 1) fu (u2 I2 rc 11 (nI (R 11 ||| 2 ^ a))) J2 (uT R 11 (R 11 ||| 2 ^ a)) m (by omega) (by omega) (by omega) (r2'.keep (fun a c z => u2_no _ _ (by omega))) (fun j hj => by
              by_cases hj11 : j = 11
              · subst hj11; rw [u2_at, uTa]
              · rw [u2_no _ _ (by omega), uTn hj11]; exact hR2 j hj) (ho.u11 ha) hm
            exact ⟨I', J', (s2 hb).trans x1, x2, fun a c z z2 => (x3 a c z z2).trans ((fr2 _).1 a c z z2), x4.trans (fr2 _).2, (g1.trans g2).trans x5, x6⟩
      · have hG2 : 24 ≤ tG b N q ∧ tG b N q ≤ 28 := by omega
        have hm' : m < 2 ^ 31 := by omega
        have hmo : m ||| 2 ^ tG b N q < 2 ^ 30 := Nat.or_lt_two_pow hm (Nat.pow_lt_pow_right (by decide) (by omega))
        have c1 : ¬ nI 1 = (3 : Int32) := by decide
        have c2 : ¬ nI (tG b N q) < (24 : Int32) := by rw [i_24]; exact of_eq_false (ltF (by omega) (by omega))
        have c3 : nI (tG b N q) ≤ (29 : Int32) := by rw [i_29]; exact of_eq_true (leT (by omega) (by omega))
        have c4 : ¬ nI (tG b N q) = (29 : Int32) := by rw [i_29]; exact of_eq_false (eqF (by omega) (by omega) (by omega))
        have c5 : (6 : Int32) + nI (tG b N q) - 24 = nI (tG b N q - 18) := by
          rw [i_6, i_24, nI_add, nI_sub (by omega)]
          congr 1
          omega
        by_cases hb : m.testBit (tG b N q) = true
        · have er : exS b N nm (k + 1) q R m = (some (8 * tP b N q + 2), q, R) := by rw [exS, if_neg hA, if_neg h29, if_pos hb]
          rw [er]
          dsimp only
          refine ⟨_, J1, ?_, bad 2 (by omega), (fr1 2).1, (fr1 2).2, g1, fun z => by cases z⟩
          rw [e, ← fin1 2 (by omega)]
          unfold exT
          rw [if_neg c1, if_neg c2, if_pos c3, if_neg c4, i_1, i_31, nI_bit hm' (by omega), if_pos hb, if_neg (show ¬ nI 1 = 0 by decide), i_2, fail0 h17 a4, obs, nI_add]
        · have eb : ((nI m >>> (nI (tG b N q) &&& (31 : Int32))) &&& (1 : Int32)) = 0 := by rw [i_1, i_31, nI_bit hm' (by omega), if_neg hb]; rfl
          have eo : nI m ||| ((1 : Int32) <<< (nI (tG b N q) &&& (31 : Int32))) = nI (m ||| 2 ^ tG b N q) := by rw [i_1, i_31, nI_one_shl (by omega), nI_or]
          by_cases h24 : tG b N q = 24
          · have er : exS b N nm (k + 1) q R m = exS b N nm k (tE b N q) (uT R 6 1) (m ||| 2 ^ 24) := by
              have hb' : ¬ m.testBit 24 = true := h24 ▸ hb
              rw [exS, if_neg hA, if_neg h29, h24, if_neg hb', if_pos rfl]
            rw [er]
            obtain ⟨I', J', x1, x2, x3, x4, x5, x6⟩ := ih (tE b N q) (i + 1) fu (u2 I1 rc 6 (nI 1)) J1 (uT R 6 1) (m ||| 2 ^ 24) (by omega) (by omega) (by omega) (h1.keep (fun a c z => u2_no _ _ (by omega))) (fun j hj => by
              by_cases hj6 : j = 6
              · subst hj6; rw [u2_at, uTa]
              · rw [u2_no _ _ (by omega), uTn hj6]; exact hR1 j hj) ho.u6 (h24 ▸ hmo)
            refine ⟨I', J', ?_, x2, fun a c z z2 => by rw [x3 a c z z2, u2_no _ _ (by omega)]; exact f1.at a c z, by rw [x4, u2_no _ _ (by omega)]; exact f1.six, g1.trans x5, x6⟩
            rw [e, ← x1]
            unfold exT
            rw [if_neg c1, if_neg c2, if_pos c3, if_neg c4, if_pos eb, if_pos (show nI (tG b N q) = (24 : Int32) by rw [h24]; rfl), eo, c5, h24]
            unfold mX4_readExtras_b175
            rw [i_1, mk_sIn hrc (by decide) (by decide), obs, nI_add]
          · obtain ⟨hi', hhi, hhi2⟩ : ∃ hi', hi' = (if tG b N q = 25 then 99 else 9999) ∧ hi' ≤ 9999 := ⟨_, rfl, by split <;> decide⟩
            obtain ⟨I2, J2, e2, r2, f2, g2⟩ := A_number (n := n) (o := none) h1 (lo := 0) (hi := hi') hhi2 (by decide)
            have hR2 : ∀ j, j < 12 → I2 rc j = nI (R j) := fun j hj => by rw [f2.at _ _ (by omega)]; exact hR1 j hj
            have et : ∀ v, nvl b N (tE b N q) 0 (md none (okN b N (tE b N q) 0 hi') (ftN b N (tE b N q))) = v → mX4_readExtras_L4 (fu + 1) (mk n I J) 94 rc (nI m) (nI i) = mX4_readExtras_L4 fu (mk n (u2 I2 rc (tG b N q - 18) (nI v)) J2) 94 rc (nI (m ||| 2 ^ tG b N q)) (nI (i + 1)) := by
              intro v hv
              rw [hv] at e2
              have e172 : mX4_readExtras_b172 (mX4_readExtras_L4 fu) (mk n I1 J1) 94 rc (nI (m ||| 2 ^ tG b N q)) (nI i) rc (nI (tG b N q - 18)) 94 (nI 0) (nI hi') = mX4_readExtras_L4 fu (mk n (u2 I2 rc (tG b N q - 18) (nI v)) J2) 94 rc (nI (m ||| 2 ^ tG b N q)) (nI (i + 1)) := by
                unfold mX4_readExtras_b172 mX4_readExtras_b175
                rw [e2, b2_some, mk_sIn hrc (by omega) (by decide), obs, i_1, nI_add]
              rw [e, ← e172]
              unfold exT
              rw [if_neg c1, if_neg c2, if_pos c3, if_neg c4, if_pos eb, if_neg (show ¬ nI (tG b N q) = (24 : Int32) by rw [i_24]; exact of_eq_false (eqF h24 (by omega) (by omega))), eo, c5]
              by_cases h25 : tG b N q = 25
              · rw [if_pos (show nI (tG b N q) = (25 : Int32) by rw [h25]; rfl), hhi, if_pos h25]
                rfl
              · rw [if_neg (show ¬ nI (tG b N q) = (25 : Int32) by rw [i_25]; exact of_eq_false (eqF h25 (by omega) (by omega))), hhi, if_neg h25]
                rfl
            have fr2 : ∀ (z : Nat) (x : Int32), (∀ a c, a < 94 ∨ 99 ≤ a → a ≠ rc → u2 I2 rc z x a c = I a c) ∧ u2 I2 rc z x 94 6 = I 94 6 := fun z x => ⟨fun a c z z2 => by rw [u2_no _ _ (by omega), f2.at a c z, f1.at a c z], by rw [u2_no _ _ (by omega), f2.six, f1.six]⟩
            by_cases hn : okN b N (tE b N q) 0 hi'
            · have er : exS b N nm (k + 1) q R m = exS b N nm k (tE b N (tE b N q)) (uT R (tG b N q - 18) (tV b N (tE b N q))) (m ||| 2 ^ tG b N q) := by
                rw [exS, if_neg hA, if_neg h29, if_neg hb, if_neg h24, ← hhi, if_pos hn]
              rw [er]
              rw [md_ok hn] at r2 et
              have r2' : CRd b N (tE b N (tE b N q)) nm I2 J2 := r2
              have et' := et (tV b N (tE b N q)) (if_pos rfl)
              obtain ⟨I', J', x1, x2, x3, x4, x5, x6⟩ := ih (tE b N (tE b N q)) (i + 1) fu (u2 I2 rc (tG b N q - 18) (nI (tV b N (tE b N q)))) J2 (uT R (tG b N q - 18) (tV b N (tE b N q))) (m ||| 2 ^ tG b N q) (by omega) (by omega) (by omega) (r2'.keep (fun a c z => u2_no _ _ (by omega))) (fun j hj => by
                by_cases hj6 : j = tG b N q - 18
                · subst hj6; rw [u2_at, uTa]
                · rw [u2_no _ _ (by omega), uTn hj6]; exact hR2 j hj) (ho.ug (by omega) (hhi ▸ hn.2.2)) hmo
              exact ⟨I', J', et'.trans x1, x2, fun a c z z2 => (x3 a c z z2).trans ((fr2 _ _).1 a c z z2), x4.trans (fr2 _ _).2, (g1.trans g2).trans x5, x6⟩
            · have er : exS b N nm (k + 1) q R m = (some (ftN b N (tE b N q)), q, R) := by
                rw [exS, if_neg hA, if_neg h29, if_neg hb, if_neg h24, ← hhi, if_neg hn]
              rw [er]
              dsimp only
              rw [md_no hn] at r2 et
              have r2' : FRd b N (ftN b N (tE b N q)) I2 J2 := r2
              have w := r2'.keep (I' := u2 I2 rc (tG b N q - 18) (nI 0)) (fun a c z => u2_no _ _ (by omega))
              refine ⟨_, J2, (et 0 (if_neg (by simp))).trans (E_stop w _ (by omega) (by omega)), w, (fr2 _ _).1, (fr2 _ _).2, g1.trans g2, fun z => by cases z⟩
end EL
