/-! ===== 98b: the class's loop over the lines ===== -/
/-- the lines from q on: a fault or none, how many, the names, the draft -/
noncomputable def rdF (b : Nat → Nat) (N : Nat) : Nat → Nat → NmL → (Nat → Nat) → Nat → Nat → Option Nat × Nat × NmL × (Nat → Nat)
  | 0, _, nm, D, _, l => (none, l, nm, D)
  | k + 1, q, nm, D, u, l => if tK b N q = 0 then (none, l, nm, D) else match md (lnF b N q nm D u).1 (tK b N (lnF b N q nm D u).2.1 = 3) (8 * tP b N (lnF b N q nm D u).2.1 + 1) with
    | some f => (some f, l, nm, D)
    | none => rdF b N k (tE b N (lnF b N q nm D u).2.1) (lnF b N q nm D u).2.2.1 (lnF b N q nm D u).2.2.2.1 (lnF b N q nm D u).2.2.2.2 (l + 1)
/-- the answer -/
def ansR (o : Option Nat) (l : Nat) : Int32 := match o with
  | none => nI l
  | some f => (-2 : Int32) - nI f
section LO
variable {n : Nat} {b : Nat → Nat} {N : Nat}
theorem tK0 {q : Nat} (hq : q ≤ N) (h : tK b N q ≠ 0) : q < N := by
  rcases Nat.lt_or_ge q N with z | z
  · exact z
  · have hp := tP_in (b := b) (N := N) hq
    exact absurd (if_pos (by omega)) h
theorem L39_f {f fu : Nat} {x : Int32} {I : Nat → Nat → Int32} {J : Nat → Nat → Int64} (h : FRd b N f I J) (hf : 0 < fu) : mX4_read_L39 fu (mk n I J) 94 x = some ((-2 : Int32) - nI f, mk n I J) := by
  obtain ⟨fu, rfl⟩ : ∃ f, fu = f + 1 := ⟨fu - 1, by omega⟩
  have h7 := h.2.1
  have h1 := h.2.2.1
  have h2 := h.2.2.2
  show mX4_read_b39 _ _ _ _ = _
  unfold mX4_read_b39 mX4_read_b101
  rw [mk_gI f_94_7, obs, h7, i_0, if_neg (of_eq_false (eqF (by omega) (by omega) (by omega))), obs, if_neg (of_eq_false (eqF (by omega) (by omega) (by omega))), obs]
theorem C_loop : ∀ (k q l fu : Nat) (I : Nat → Nat → Int32) (J : Nat → Nat → Int64) (nm : NmL) (D : Nat → Nat) (u : Nat), N - q < k → k < fu → l ≤ q → PI nm D → CI b N q nm D u I J → ∃ I' J', mX4_read_L39 fu (mk n I J) 94 (nI l) = some (ansR (rdF b N k q nm D u l).1 (rdF b N k q nm D u l).2.1, mk n I' J') ∧ Fw I I' ∧ Gw J J' ∧ ((rdF b N k q nm D u l).1 = none → PI (rdF b N k q nm D u l).2.2.1 (rdF b N k q nm D u l).2.2.2 ∧ NMok (rdF b N k q nm D u l).2.2.1 ∧ WR I' 48 (rdF b N k q nm D u l).2.2.2 ∧ SN (rdF b N k q nm D u l).2.2.1 (rdF b N k q nm D u l).2.2.2 J') ∧ (∀ f, (rdF b N k q nm D u l).1 = some f → f < 100000) ∧ (rdF b N k q nm D u l).2.1 ≤ 900 := by
  intro k
  induction k with
  | zero => intro q l fu I J nm D u h1; exact absurd h1 (Nat.not_lt_zero _)
  | succ k ih =>
    intro q l fu I J nm D u hk hf hl hP h
    obtain ⟨fu, rfl⟩ : ∃ f, fu = f + 1 := ⟨fu - 1, by omega⟩
    obtain ⟨h1, hq, a4, a5, a6, hW, hC, hS⟩ := id h
    have hN := h1.1.1
    have h7 := h1.2.2.2.1
    have hK := tK_le4 (b := b) (N := N) q
    by_cases h0 : tK b N q = 0
    · have er : rdF b N (k + 1) q nm D u l = (none, l, nm, D) := by rw [rdF, if_pos h0]
      rw [er]
      refine ⟨I, J, ?_, Fw.refl _, Gw.refl _, fun _ => ⟨hP, h1.2.2.2.2.2, hW, hS⟩, fun f z => (by cases z), by show l ≤ 900; omega⟩
      show mX4_read_b39 _ _ _ _ = _
      unfold mX4_read_b39 mX4_read_b101
      rw [mk_gI f_94_7, obs, h7, if_pos (show nI 0 = 0 from rfl), mk_gR f_94_0, obs, mk_gI f_98_5, obs, a5, h0, if_pos (show nI 0 = 0 from rfl), obs, if_pos (show nI 0 = 0 from rfl)]
      rfl
    · have hqN := tK0 hq h0
      obtain ⟨h', eX, I1, J1, rfl, r1, f1, g1, w1⟩ := C_line (n := n) hP h
      have hd : mX4_read_L39 (fu + 1) (mk n I J) 94 (nI l) = mX4_read_b88 (mX4_read_L39 fu) (mk n I1 J1) 94 (nI l) := by
        rw [← eX (fun h => mX4_read_b88 (mX4_read_L39 fu) h 94 (nI l))]
        show mX4_read_b39 _ _ _ _ = _
        unfold mX4_read_b39
        rw [mk_gI f_94_7, obs, h7, if_pos (show nI 0 = 0 from rfl), mk_gR f_94_0, obs, mk_gI f_98_5, obs, a5, i_900, if_neg (show ¬ nI (tK b N q) = 0 by rw [i_0]; exact of_eq_false (eqF h0 (by omega) (by omega))), if_neg (of_eq_false (leF (by omega) (by omega))), obs, mk_gI f_98_6, obs, a6]
      obtain ⟨I2, J2, e2, r2, f2, g2, t2⟩ := A_nxt (n := n) r1
      have hd2 : mX4_read_b88 (mX4_read_L39 fu) (mk n I1 J1) 94 (nI l) = mX4_read_L39 fu (mk n I2 J2) 94 (nI (l + 1)) := by
        unfold mX4_read_b88
        rw [mk_gR f_94_0, obs, e2, obs, i_1, nI_add]
      rw [hd, hd2]
      cases hm : md (lnF b N q nm D u).1 (tK b N (lnF b N q nm D u).2.1 = 3) (8 * tP b N (lnF b N q nm D u).2.1 + 1) with
      | some f =>
        have er : rdF b N (k + 1) q nm D u l = (some f, l, nm, D) := by rw [rdF, if_neg h0, hm]
        rw [er]
        rw [hm] at r2
        exact ⟨I2, J2, L39_f r2 (by omega), f1.trans f2.fw, g1.trans g2.gw, fun z => (by cases z), fun f' z => (by cases z; exact r2.2.2.2), by show l ≤ 900; omega⟩
      | none =>
        have er : rdF b N (k + 1) q nm D u l = rdF b N k (tE b N (lnF b N q nm D u).2.1) (lnF b N q nm D u).2.2.1 (lnF b N q nm D u).2.2.2.1 (lnF b N q nm D u).2.2.2.2 (l + 1) := by rw [rdF, if_neg h0, hm]
        rw [er]
        rw [hm] at r2
        have hn := (md_none.mp hm).1
        obtain ⟨hP', hq1, hq2⟩ := PI_next hP h1.2.2.2.2.2 hq hn
        have pe := tE_in (b := b) hq1
        obtain ⟨y1, y2, y3⟩ := t2 hm
        obtain ⟨v1, v2, v3⟩ := w1 hn
        obtain ⟨I', J', x1, x2, x3, x4⟩ := ih (tE b N (lnF b N q nm D u).2.1) (l + 1) fu I2 J2 (lnF b N q nm D u).2.2.1 (lnF b N q nm D u).2.2.2.1 (lnF b N q nm D u).2.2.2.2 (by omega) (by omega) (by omega) hP' ⟨r2, pe.2, y1, y2, y3, v1.scr hP'.1 (fun a c z1 z2 => f2.at a c (by omega)), v2.same f2.six, v3.same (fun s => g2 _ _ (by decide) (by decide)) rfl⟩
        exact ⟨I', J', x1, (f1.trans f2.fw).trans x2, (g1.trans g2.gw).trans x3, x4⟩
end LO
