/-! ===== 70: take, keep ===== -/
section TK
variable {n : Nat} {I : Nat → Nat → Int32} {J : Nat → Nat → Int64} {T U : Nat → Nat}
/-- a row is copied -/
def cpR {α : Type} (I : Nat → Nat → α) (k1 k2 m : Nat) : Nat → Nat → α := fun a c => if a = k2 ∧ c < m then I k1 c else I a c
theorem cpR_at {α : Type} (I : Nat → Nat → α) {k1 k2 m c : Nat} (h : c < m) : cpR I k1 k2 m k2 c = I k1 c := if_pos ⟨rfl, h⟩
theorem cpR_no {α : Type} (I : Nat → Nat → α) {k1 k2 m a c : Nat} (h : ¬ (a = k2 ∧ c < m)) : cpR I k1 k2 m a c = I a c := if_neg h
theorem mk_cpI {k1 k2 n1 n2 m : Nat} (h1 : isI k1 0 n1 = true) (h2 : isI k2 0 n2 = true) (hm1 : m ≤ n1) (hm2 : m ≤ n2) (hm : m < 10000) : cpI (mk n I J) k1 (nI 0) k2 (nI 0) (nI m) = some (mk n (cpR I k1 k2 m) J) := by
  have c0 : (nI 0).toNatClampNeg = 0 := nI_clamp (by decide)
  have cm : (nI m).toNatClampNeg = m := nI_clamp (by omega)
  have z0 : ¬ nI 0 < 0 := nI_nlt (b := 0) (Nat.le_refl _) (by decide)
  have zm : ¬ nI m < 0 := nI_nlt (b := 0) (Nat.zero_le _) (by omega)
  unfold cpI
  show (match shc k1 (I k1) (J k1), shc k2 (I k2) (J k2) with
    | some (.inr (t0, n0, .inl f)), some (.inr (t1, n1, .inl q)) => if (t0 = 0 ∧ t1 = 0) ∧ (¬ nI 0 < 0 ∧ ¬ nI 0 < 0 ∧ ¬ nI m < 0) ∧ (nI 0).toNatClampNeg + (nI m).toNatClampNeg ≤ n0 ∧ (nI 0).toNatClampNeg + (nI m).toNatClampNeg ≤ n1 then some ((mk n I J).1, va_up (mk n I J).2 k2 (some (.inr (0, n1, .inl (va_cpy f q (nI 0).toNatClampNeg (nI 0).toNatClampNeg (nI m).toNatClampNeg))))) else none
    | _, _ => none) = _
  rw [isI_sp h1, isI_sp h2]
  simp only [c0, cm]
  rw [if_pos ⟨⟨trivial, trivial⟩, ⟨z0, z0, zm⟩, by omega, by omega⟩]
  rw [mk_up (I' := cpR I k1 k2 m) (J' := J) (isI_sp h2 _ (J k2)) (fun a ha => funext fun c => cpR_no _ (by omega)) (fun a ha => rfl) (funext fun c => ?_) rfl]
  unfold cpR va_cpy
  by_cases hc : c < m
  · rw [if_pos ⟨rfl, hc⟩, if_pos ⟨Nat.zero_le _, by omega⟩, Nat.sub_zero, Nat.zero_add]
  · rw [if_neg (fun z => hc z.2), if_neg (fun z => hc (by omega))]
theorem mk_cpL {k1 k2 n1 n2 m : Nat} (h1 : isJ k1 n1 = true) (h2 : isJ k2 n2 = true) (hm1 : m ≤ n1) (hm2 : m ≤ n2) (hm : m < 10000) : cpL (mk n I J) k1 (nI 0) k2 (nI 0) (nI m) = some (mk n I (cpR J k1 k2 m)) := by
  have c0 : (nI 0).toNatClampNeg = 0 := nI_clamp (by decide)
  have cm : (nI m).toNatClampNeg = m := nI_clamp (by omega)
  have z0 : ¬ nI 0 < 0 := nI_nlt (b := 0) (Nat.le_refl _) (by decide)
  have zm : ¬ nI m < 0 := nI_nlt (b := 0) (Nat.zero_le _) (by omega)
  unfold cpL
  show (match shc k1 (I k1) (J k1), shc k2 (I k2) (J k2) with
    | some (.inr (t0, n0, .inr (.inl f))), some (.inr (t1, n1, .inr (.inl q))) => if (t0 = 1 ∧ t1 = 1) ∧ (¬ nI 0 < 0 ∧ ¬ nI 0 < 0 ∧ ¬ nI m < 0) ∧ (nI 0).toNatClampNeg + (nI m).toNatClampNeg ≤ n0 ∧ (nI 0).toNatClampNeg + (nI m).toNatClampNeg ≤ n1 then some ((mk n I J).1, va_up (mk n I J).2 k2 (some (.inr (1, n1, .inr (.inl (va_cpy f q (nI 0).toNatClampNeg (nI 0).toNatClampNeg (nI m).toNatClampNeg)))))) else none
    | _, _ => none) = _
  rw [isJ_sp h1, isJ_sp h2]
  simp only [c0, cm]
  rw [if_pos ⟨⟨trivial, trivial⟩, ⟨z0, z0, zm⟩, by omega, by omega⟩]
  rw [mk_up (I' := I) (J' := cpR J k1 k2 m) (isJ_sp h2 (I k2) _) (fun a ha => rfl) (fun a ha => funext fun c => cpR_no _ (by omega)) rfl (funext fun c => ?_)]
  unfold cpR va_cpy
  by_cases hc : c < m
  · rw [if_pos ⟨rfl, hc⟩, if_pos ⟨Nat.zero_le _, by omega⟩, Nat.sub_zero, Nat.zero_add]
  · rw [if_neg (fun z => hc z.2), if_neg (fun z => hc (by omega))]
/-- rows q1 + 1 and on go to q0 + 1 and on -/
theorem C_tkRowsL {q1 q0 N m : Nat} (hq1 : isQ q1 5 N = true) (hq0 : isQ q0 5 N = true) (hp1 : ∀ i, i < N → ptQ q1 i = some (q1 + 1 + i)) (hp0 : ∀ i, i < N → ptQ q0 i = some (q0 + 1 + i)) (hr1 : ∀ i, i < N → isI (q1 + 1 + i) 0 m = true) (hr0 : ∀ i, i < N → isI (q0 + 1 + i) 0 m = true) (hN : N < 100) (hm : m < 100) (hd : q1 + 100 < q0 ∨ q0 + 44 < q1 ∨ q1 + 44 < q0) (hd2 : q1 + N < q0 ∨ q0 + N < q1) : ∀ (k t fu : Nat) (I : Nat → Nat → Int32), t + k = N → k < fu → ∃ I', mX8_takeRows_L2 fu (mk n I J) q1 q0 (nI t) = some (mk n I' J) ∧ (∀ a c, ¬ (q0 + 1 + t ≤ a ∧ a < q0 + 1 + N) → I' a c = I a c) ∧ ∀ i c, t ≤ i → i < N → c < m → I' (q0 + 1 + i) c = I (q1 + 1 + i) c := by
  intro k
  induction k with
  | zero =>
    intro t fu I ht hf
    obtain ⟨fu, rfl⟩ : ∃ f, fu = f + 1 := ⟨fu - 1, by omega⟩
    refine ⟨I, ?_, fun _ _ _ => rfl, fun i c h1 h2 => by omega⟩
    show mX8_takeRows_b2 _ _ _ _ _ = _
    unfold mX8_takeRows_b2
    rw [mk_aNQ hq1, obs]
    rw [show (Int32.ofNat N) = nI N from rfl, if_pos (nI_le (by omega) (by omega))]
  | succ k ih =>
    intro t fu I ht hf
    obtain ⟨fu, rfl⟩ : ∃ f, fu = f + 1 := ⟨fu - 1, by omega⟩
    obtain ⟨I', e, f, g⟩ := ih (t + 1) fu (cpR I (q1 + 1 + t) (q0 + 1 + t) m) (by omega) (by omega)
    refine ⟨I', ?_, fun a c hn => ?_, fun i c h1 h2 h3 => ?_⟩
    · show mX8_takeRows_b2 _ _ _ _ _ = _
      unfold mX8_takeRows_b2
      rw [mk_aNQ hq1, obs, show (Int32.ofNat N) = nI N from rfl, if_neg (nI_ge (by omega) (by omega)), mk_aNQ hq0, obs, show (Int32.ofNat N) = nI N from rfl, if_neg (nI_ge (by omega) (by omega))]
      rw [mk_aRn hq1 (hp1 t (by omega)) (by omega) (by omega), obs, mk_aRn hq0 (hp0 t (by omega)) (by omega) (by omega), obs, obs, mk_aN (hr1 t (by omega)), obs, obs, mk_aN (hr0 t (by omega)), obs]
      rw [show (Int32.ofNat m) = nI m from rfl, mmin_nI (by omega) (by omega), Nat.min_self, i_0, mk_cpI (hr1 t (by omega)) (hr0 t (by omega)) (Nat.le_refl _) (Nat.le_refl _) (by omega), obs, i_1, nI_add]
      exact e
    · rw [f a c (by omega), cpR_no _ (by omega)]
    · by_cases hit : i = t
      · subst hit
        rw [f _ _ (by omega), cpR_at _ h3]
      · rw [g i c (by omega) h2 h3, cpR_no _ (by omega)]
theorem C_takeRows (I : Nat → Nat → Int32) {q1 q0 N m : Nat} (hq1 : isQ q1 5 N = true) (hq0 : isQ q0 5 N = true) (hp1 : ∀ i, i < N → ptQ q1 i = some (q1 + 1 + i)) (hp0 : ∀ i, i < N → ptQ q0 i = some (q0 + 1 + i)) (hr1 : ∀ i, i < N → isI (q1 + 1 + i) 0 m = true) (hr0 : ∀ i, i < N → isI (q0 + 1 + i) 0 m = true) (hN : N < 40) (hm : m < 40) (hd : q1 + 44 < q0 ∨ q0 + 44 < q1) : ∃ I', mX8_takeRows (mk n I J) q1 q0 = some (mk n I' J) ∧ (∀ a c, ¬ (q0 + 1 ≤ a ∧ a < q0 + 1 + N) → I' a c = I a c) ∧ ∀ i c, i < N → c < m → I' (q0 + 1 + i) c = I (q1 + 1 + i) c := by
  obtain ⟨I', e, f, g⟩ := C_tkRowsL (n := n) (J := J) hq1 hq0 hp1 hp0 hr1 hr0 (by omega) (by omega) (by omega) (by omega) N 0 FU I (by omega) (by unfold FU; omega)
  exact ⟨I', e, f, fun i c h1 h2 => g i c (Nat.zero_le _) h1 h2⟩
/-- the worlds -/
def isWd (b : Nat) : Prop := b = 3 ∨ b = 48 ∨ b = 134 ∨ b = 179
theorem wd_o {b : Nat} (h : isWd b) : isC b 8 = true := by rcases h with rfl | rfl | rfl | rfl <;> rfl
theorem wd_0 {b : Nat} (h : isWd b) : isF b 8 0 (b + 1 + 2) = true := by rcases h with rfl | rfl | rfl | rfl <;> rfl
theorem wd_1 {b : Nat} (h : isWd b) : isF b 8 1 (b + 2 + 2) = true := by rcases h with rfl | rfl | rfl | rfl <;> rfl
theorem wd_2 {b : Nat} (h : isWd b) : isF b 8 2 (b + 3 + 2) = true := by rcases h with rfl | rfl | rfl | rfl <;> rfl
theorem wd_3 {b : Nat} (h : isWd b) : isF b 8 3 (b + 10 + 2) = true := by rcases h with rfl | rfl | rfl | rfl <;> rfl
theorem wd_4 {b : Nat} (h : isWd b) : isF b 8 4 (b + 15 + 2) = true := by rcases h with rfl | rfl | rfl | rfl <;> rfl
theorem wd_5 {b : Nat} (h : isWd b) : isF b 8 5 (b + 26 + 2) = true := by rcases h with rfl | rfl | rfl | rfl <;> rfl
theorem wd_6 {b : Nat} (h : isWd b) : isF b 8 6 (b + 27 + 2) = true := by rcases h with rfl | rfl | rfl | rfl <;> rfl
theorem wd_7 {b : Nat} (h : isWd b) : isF b 8 7 (b + 40 + 2) = true := by rcases h with rfl | rfl | rfl | rfl <;> rfl
theorem wd_t {b : Nat} (h : isWd b) : isI (b + 1) 0 14 = true := by rcases h with rfl | rfl | rfl | rfl <;> rfl
theorem wd_k {b : Nat} (h : isWd b) : isI (b + 2) 0 6 = true := by rcases h with rfl | rfl | rfl | rfl <;> rfl
theorem wd_n {b : Nat} (h : isWd b) : isJ (b + 26) 10 = true := by rcases h with rfl | rfl | rfl | rfl <;> rfl
/-- rows of rows -/
def wdR (b q N m : Nat) : Prop := isQ (b + q) 5 N = true ∧ (∀ i, i < N → ptQ (b + q) i = some (b + q + 1 + i)) ∧ ∀ i, i < N → isI (b + q + 1 + i) 0 m = true
theorem wd_g {b : Nat} (h : isWd b) : wdR b 3 6 4 := by
  rcases h with rfl | rfl | rfl | rfl
  · exact ⟨a_6, q_6, r_6⟩
  · exact ⟨a_51, q_51, r_51⟩
  · exact ⟨a_137, q_137, r_137⟩
  · exact ⟨a_182, q_182, r_182⟩
theorem wd_a {b : Nat} (h : isWd b) : wdR b 10 4 2 := by
  rcases h with rfl | rfl | rfl | rfl
  · exact ⟨a_13, q_13, r_13⟩
  · exact ⟨a_58, q_58, r_58⟩
  · exact ⟨a_144, q_144, r_144⟩
  · exact ⟨a_189, q_189, r_189⟩
theorem wd_s {b : Nat} (h : isWd b) : wdR b 15 10 12 := by
  rcases h with rfl | rfl | rfl | rfl
  · exact ⟨a_18, q_18, r_18⟩
  · exact ⟨a_63, q_63, r_63⟩
  · exact ⟨a_149, q_149, r_149⟩
  · exact ⟨a_194, q_194, r_194⟩
theorem wd_r {b : Nat} (h : isWd b) : wdR b 27 12 4 := by
  rcases h with rfl | rfl | rfl | rfl
  · exact ⟨a_30, q_30, r_30⟩
  · exact ⟨a_75, q_75, r_75⟩
  · exact ⟨a_161, q_161, r_161⟩
  · exact ⟨a_206, q_206, r_206⟩
theorem wd_q {b : Nat} (h : isWd b) : wdR b 40 4 2 := by
  rcases h with rfl | rfl | rfl | rfl
  · exact ⟨a_43, q_43, r_43⟩
  · exact ⟨a_88, q_88, r_88⟩
  · exact ⟨a_174, q_174, r_174⟩
  · exact ⟨a_219, q_219, r_219⟩
set_option maxHeartbeats 4000000 in
/-- one world takes what another tells -/
theorem C_take (I : Nat → Nat → Int32) (J : Nat → Nat → Int64) {b1 b0 : Nat} (h1 : isWd b1) (h0 : isWd b0) (hd : b1 ≠ b0) : ∃ I', mX8_take (mk n I J) b0 b1 = some (mk n I' (cpR J (b1 + 26) (b0 + 26) 10)) ∧ (∀ a c, ¬ (b0 ≤ a ∧ a ≤ b0 + 44) → I' a c = I a c) ∧ ∀ T, VT T → WR I b1 T → WR I' b0 T := by
  have hb : b1 + 44 < b0 ∨ b0 + 44 < b1 := by unfold isWd at h1 h0; omega
  obtain ⟨g1, g2, g3⟩ := wd_g h1
  obtain ⟨g1', g2', g3'⟩ := wd_g h0
  obtain ⟨a1, a2, a3⟩ := wd_a h1
  obtain ⟨a1', a2', a3'⟩ := wd_a h0
  obtain ⟨s1, s2, s3⟩ := wd_s h1
  obtain ⟨s1', s2', s3'⟩ := wd_s h0
  obtain ⟨r1, r2, r3⟩ := wd_r h1
  obtain ⟨r1', r2', r3'⟩ := wd_r h0
  obtain ⟨q1, q2, q3⟩ := wd_q h1
  obtain ⟨q1', q2', q3'⟩ := wd_q h0
  have d1 := mk_cpI (n := n) (I := I) (J := J) (m := 14) (wd_t h1) (wd_t h0) (by decide) (by decide) (by decide)
  have d2 := mk_cpI (n := n) (I := cpR I (b1 + 1) (b0 + 1) 14) (J := J) (m := 6) (wd_k h1) (wd_k h0) (by decide) (by decide) (by decide)
  have d3 := mk_cpL (n := n) (I := cpR (cpR I (b1 + 1) (b0 + 1) 14) (b1 + 2) (b0 + 2) 6) (J := J) (m := 10) (wd_n h1) (wd_n h0) (by decide) (by decide) (by decide)
  obtain ⟨I4, e4, f4, p4⟩ := C_takeRows (n := n) (J := cpR J (b1 + 26) (b0 + 26) 10) (cpR (cpR I (b1 + 1) (b0 + 1) 14) (b1 + 2) (b0 + 2) 6) g1 g1' g2 g2' g3 g3' (by decide) (by decide) (by omega)
  obtain ⟨I5, e5, f5, p5⟩ := C_takeRows (n := n) (J := cpR J (b1 + 26) (b0 + 26) 10) I4 a1 a1' a2 a2' a3 a3' (by decide) (by decide) (by omega)
  obtain ⟨I6, e6, f6, p6⟩ := C_takeRows (n := n) (J := cpR J (b1 + 26) (b0 + 26) 10) I5 s1 s1' s2 s2' s3 s3' (by decide) (by decide) (by omega)
  obtain ⟨I7, e7, f7, p7⟩ := C_takeRows (n := n) (J := cpR J (b1 + 26) (b0 + 26) 10) I6 r1 r1' r2 r2' r3 r3' (by decide) (by decide) (by omega)
  obtain ⟨I8, e8, f8, p8⟩ := C_takeRows (n := n) (J := cpR J (b1 + 26) (b0 + 26) 10) I7 q1 q1' q2 q2' q3 q3' (by decide) (by decide) (by omega)
  refine ⟨I8, ?_, fun a c hn => ?_, fun T hT hW => ?_⟩
  · unfold mX8_take
    simp only [mk_oO (wd_o h0), mk_gR (wd_0 h0), mk_gR (wd_1 h0), mk_gR (wd_2 h0), mk_gR (wd_3 h0), mk_gR (wd_4 h0), mk_gR (wd_5 h0), mk_gR (wd_6 h0), mk_gR (wd_7 h0), mk_gR (wd_0 h1), mk_gR (wd_1 h1), mk_gR (wd_2 h1), mk_gR (wd_3 h1), mk_gR (wd_4 h1), mk_gR (wd_5 h1), mk_gR (wd_6 h1), mk_gR (wd_7 h1), i_0, i_14, i_6, i_10, obs, d1, d2, d3, e4, e5, e6, e7, e8]
  · rw [f8 _ _ (by omega), f7 _ _ (by omega), f6 _ _ (by omega), f5 _ _ (by omega), f4 _ _ (by omega), cpR_no _ (by omega), cpR_no _ (by omega)]
  · have b := hT.1
    obtain ⟨w1, w2, w3, w4, w5, w6, w7, w8⟩ := hW
    have t : ∀ c, c < 14 → I8 (b0 + 1) c = I (b1 + 1) c := fun c hc => by
      rw [f8 _ _ (by omega), f7 _ _ (by omega), f6 _ _ (by omega), f5 _ _ (by omega), f4 _ _ (by omega), cpR_no _ (by omega), cpR_at _ hc]
    refine ⟨fun k hk => by rw [t k (by omega)]; exact w1 k hk, by rw [t 13 (by omega)]; exact w2, fun g j hg hj => ?_, fun a j ha hj => ?_, fun s j hs hj => ?_, fun r j hr hj => ?_, fun q j hq hj => ?_, fun p hp => ?_⟩
    · rw [f8 _ _ (by omega), f7 _ _ (by omega), f6 _ _ (by omega), f5 _ _ (by omega), show b0 + 4 + g = b0 + 3 + 1 + g by omega, p4 g j (by omega) hj, cpR_no _ (by omega), cpR_no _ (by omega), show b1 + 3 + 1 + g = b1 + 4 + g by omega]
      exact w3 g j hg hj
    · rw [f8 _ _ (by omega), f7 _ _ (by omega), f6 _ _ (by omega), show b0 + 11 + a = b0 + 10 + 1 + a by omega, p5 a j (by omega) hj, f4 _ _ (by omega), cpR_no _ (by omega), cpR_no _ (by omega), show b1 + 10 + 1 + a = b1 + 11 + a by omega]
      exact w4 a j ha hj
    · rw [f8 _ _ (by omega), f7 _ _ (by omega), show b0 + 16 + s = b0 + 15 + 1 + s by omega, p6 s j (by omega) hj, f5 _ _ (by omega), f4 _ _ (by omega), cpR_no _ (by omega), cpR_no _ (by omega), show b1 + 15 + 1 + s = b1 + 16 + s by omega]
      exact w5 s j hs hj
    · rw [f8 _ _ (by omega), show b0 + 28 + r = b0 + 27 + 1 + r by omega, p7 r j (by omega) hj, f6 _ _ (by omega), f5 _ _ (by omega), f4 _ _ (by omega), cpR_no _ (by omega), cpR_no _ (by omega), show b1 + 27 + 1 + r = b1 + 28 + r by omega]
      exact w6 r j hr hj
    · rw [show b0 + 41 + q = b0 + 40 + 1 + q by omega, p8 q j (by omega) hj, f7 _ _ (by omega), f6 _ _ (by omega), f5 _ _ (by omega), f4 _ _ (by omega), cpR_no _ (by omega), cpR_no _ (by omega), show b1 + 40 + 1 + q = b1 + 41 + q by omega]
      exact w7 q j hq hj
    · obtain ⟨m, m1, m2, m3⟩ := w8 p hp
      refine ⟨m, m1, ?_, m3⟩
      rw [f8 _ _ (by omega), f7 _ _ (by omega), f6 _ _ (by omega), f5 _ _ (by omega), f4 _ _ (by omega), cpR_at _ hp, cpR_no _ (by omega)]
      exact m2
end TK
