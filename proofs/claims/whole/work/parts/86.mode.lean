/-! ===== 86: the class's steps, with or without a fault ===== -/
/-- none: at q without a fault; some f: behind the fault f -/
def CM (b : Nat → Nat) (N : Nat) (o : Option Nat) (q : Nat) (nm : NmL) (I : Nat → Nat → Int32) (J : Nat → Nat → Int64) : Prop := match o with
  | none => CRd b N q nm I J
  | some f => FRd b N f I J
/-- the mode behind a test: ok, or the fault g -/
def md (o : Option Nat) (ok : Prop) [Decidable ok] (g : Nat) : Option Nat := match o with
  | none => if ok then none else some g
  | some f => some f
abbrev okG (b : Nat → Nat) (N q : Nat) (nm : NmL) : Prop := okName b N q ∧ fnd (tW b N q) nm = nm.length
def ftG (b : Nat → Nat) (N q : Nat) : Nat := 8 * tP b N q + if okName b N q then 2 else 1
/-- the number of the one of sort s that the name at q tells -/
def tnQ (b : Nat → Nat) (N q : Nat) (nm : NmL) (s : Nat) : Option Nat := if okName b N q then (match nm[fnd (tW b N q) nm]? with | some x => if x.2.1 = s then some x.2.2 else none | none => none) else none
def ftT (b : Nat → Nat) (N q : Nat) : Nat := 8 * tP b N q + if okName b N q then 3 else 1
abbrev okN (b : Nat → Nat) (N q lo hi : Nat) : Prop := tK b N q = 2 ∧ lo ≤ tV b N q ∧ tV b N q ≤ hi
def ftN (b : Nat → Nat) (N q : Nat) : Nat := 8 * tP b N q + if tK b N q = 2 then 4 else 1
theorem md_none {o : Option Nat} {ok : Prop} [Decidable ok] {g : Nat} : md o ok g = none ↔ o = none ∧ ok := by
  cases o with
  | none =>
    unfold md
    by_cases h : ok
    · simp [h]
    · simp [h]
  | some f => simp [md]
theorem md_ok {ok : Prop} [Decidable ok] {g : Nat} (h : ok) : md none ok g = none := md_none.mpr ⟨rfl, h⟩
theorem md_no {ok : Prop} [Decidable ok] {g : Nat} (h : ¬ ok) : md none ok g = some g := if_neg h
theorem md_some {ok : Prop} [Decidable ok] {g f : Nat} : md (some f) ok g = some f := rfl
section MO
variable {n : Nat} {b : Nat → Nat} {N q s : Nat} {nm : NmL} {I : Nat → Nat → Int32} {J : Nat → Nat → Int64} {o : Option Nat}
theorem tnQ_isT {c : Nat} : tnQ b N q nm s = some c ↔ isT b N q nm s c := by
  unfold tnQ isT
  by_cases ok : okName b N q
  · rw [if_pos ok]
    cases hx : nm[fnd (tW b N q) nm]? with
    | none => simp
    | some x =>
      simp only [Option.some.injEq]
      constructor
      · intro h
        by_cases h1 : x.2.1 = s
        · rw [if_pos h1] at h
          exact ⟨ok, x, rfl, h1, by cases h; rfl⟩
        · rw [if_neg h1] at h; cases h
      · rintro ⟨-, y, hy, y1, y2⟩
        subst hy
        rw [if_pos y1, y2]
  · rw [if_neg ok]
    simp [ok]
theorem CM.keep {I' : Nat → Nat → Int32} (h : CM b N o q nm I J) (hf : ∀ a c, a = 2 ∨ a = 94 ∨ a = 96 ∨ a = 97 ∨ a = 98 → I' a c = I a c) : CM b N o q nm I' J := by
  cases o with
  | none => exact CRd.keep h hf
  | some f => exact FRd.keep h (fun a c z => hf a c (by omega))
theorem CM.keepJ {J' : Nat → Nat → Int64} (h : CM b N o q nm I J) (hf : ∀ a c, a = 95 ∨ a = 99 → J' a c = J a c) : CM b N o q nm I J' := by
  cases o with
  | none => exact CRd.keepJ h hf
  | some f => exact FRd.keepJ h (fun c => hf 99 c (by omega))
theorem A_expect (h : CM b N o q nm I J) {x : Nat} (hx : x < 30) : ∃ I' J', mX4_expect (mk n I J) 94 (nI x) = some (mk n I' J') ∧ CM b N (md o (tG b N q = x) (8 * tP b N q + 1)) (tE b N q) nm I' J' ∧ Fo I I' ∧ Go J J' := by
  cases o with
  | none =>
    by_cases ok : tG b N q = x
    · rw [md_ok ok]; exact C_expect h hx ok
    · rw [md_no ok]; exact C_expectF h hx ok
  | some f => exact T_expect h _
/-- a number's value, or the least that it may be -/
def nvl (b : Nat → Nat) (N q lo : Nat) (o : Option Nat) : Nat := if o = none then tV b N q else lo
theorem A_number (h : CM b N o q nm I J) {lo hi : Nat} (hh : hi ≤ 9999) (hlo : lo ≤ 10000) : ∃ I' J', mX4_number (mk n I J) 94 (nI lo) (nI hi) = some (nI (nvl b N q lo (md o (okN b N q lo hi) (ftN b N q))), mk n I' J') ∧ CM b N (md o (okN b N q lo hi) (ftN b N q)) (tE b N q) nm I' J' ∧ Fo I I' ∧ Go J J' := by
  unfold nvl
  cases o with
  | none =>
    by_cases ok : okN b N q lo hi
    · rw [md_ok ok, if_pos rfl]; exact C_number h hh ok
    · rw [md_no ok, if_neg (by simp)]; exact C_numberF h hh hlo ok
  | some f => rw [md_some, if_neg (by simp)]; exact T_number h _ _
theorem nvl_le {lo hi : Nat} (hq : q ≤ N) (hh : hi ≤ 9999) (hlo : lo ≤ 10000) : nvl b N q lo (md o (okN b N q lo hi) (ftN b N q)) ≤ 10000 := by
  unfold nvl
  by_cases h : md o (okN b N q lo hi) (ftN b N q) = none
  · rw [if_pos h]
    have := (md_none.mp h).2
    omega
  · rw [if_neg h]; exact hlo
theorem A_give (h : CM b N o q nm I J) {c : Nat} (hs : s ≤ 3) (hc : c < 10) (h49 : I 49 s = nI c) (hl : nm.length < 26) : ∃ I' J', mX4_giveName (mk n I J) 94 (nI s) = some (mk n I' J') ∧ CM b N (md o (okG b N q nm) (ftG b N q)) (tE b N q) (nm ++ [(tW b N q, s, c)]) I' J' ∧ Fo I I' ∧ Go J J' ∧ (md o (okG b N q nm) (ftG b N q) = none → J' 98 7 = lN (enc 27 (tW b N q))) := by
  cases o with
  | none =>
    by_cases ok : okG b N q nm
    · rw [md_ok ok]
      obtain ⟨I', J', e, r, f, g, j⟩ := C_giveName (n := n) h hs hc h49 ok.1 ok.2 hl
      exact ⟨I', J', e, r, f, g, fun _ => j⟩
    · rw [md_no ok]
      obtain ⟨I', J', e, r, f, g⟩ := C_giveNameF (n := n) (s := s) h ok
      exact ⟨I', J', e, r, f, g, fun z => by cases z⟩
  | some f =>
    obtain ⟨I', J', e, r, f, g⟩ := T_giveName (n := n) h hs
    exact ⟨I', J', e, r, f, g, fun z => by cases z⟩
/-- what a name tells, or 0 -/
def tvl (b : Nat → Nat) (N q : Nat) (nm : NmL) (s : Nat) (o : Option Nat) : Nat := if o = none then (tnQ b N q nm s).getD 0 else 0
theorem A_told (h : CM b N o q nm I J) (hs : s ≤ 3) : ∃ I' J', mX4_toldOf (mk n I J) 94 (nI s) = some (nI (tvl b N q nm s o), mk n I' J') ∧ CM b N (md o ((tnQ b N q nm s).isSome = true) (ftT b N q)) (tE b N q) nm I' J' ∧ Fo I I' ∧ Go J J' ∧ (md o ((tnQ b N q nm s).isSome = true) (ftT b N q) = none → I' 98 4 = nI (tP b N q)) := by
  unfold tvl
  cases o with
  | none =>
    rw [if_pos rfl]
    cases ht : tnQ b N q nm s with
    | some c =>
      rw [md_ok (by simp)]
      obtain ⟨I', J', e, r, f, g, a4⟩ := C_toldOf (n := n) h (tnQ_isT.mp ht)
      exact ⟨I', J', e, r, f, g, fun _ => a4⟩
    | none =>
      rw [md_no (by simp)]
      obtain ⟨I', J', e, r, f, g⟩ := C_toldOfF (n := n) h hs (fun ⟨c, z⟩ => by rw [tnQ_isT.mpr z] at ht; cases ht)
      exact ⟨I', J', e, r, f, g, fun z => by cases z⟩
  | some f =>
    rw [if_neg (by simp)]
    obtain ⟨I', J', e, r, f, g⟩ := T_toldOf (n := n) h (nI s)
    exact ⟨I', J', e, r, f, g, fun z => by cases z⟩
theorem A_next (h : CM b N (some s) q nm I J) : ∃ I' J', mX7_next (mk n I J) 98 = some (mk n I' J') ∧ CM b N (some s) q nm I' J' ∧ Fo I I' ∧ Go J J' := T_next h
/-- a test of one's own: fail() at the token before q' -/
theorem A_fail (h : CM b N o q nm I J) {p k : Nat} (hk : 1 ≤ k ∧ k < 8) (hp : p ≤ 900) (h4 : o = none → I 98 4 = nI p) : ∃ I', mX4_fail (mk n I J) 94 (nI k) = some (mk n I' J) ∧ CM b N (md o False (8 * p + k)) q nm I' J ∧ Fo I I' := by
  cases o with
  | none =>
    have h' : CRd b N q nm I J := h
    obtain ⟨h1, h2, h3, h4', h5, h6⟩ := h'
    refine ⟨_, fail0 h4' (h4 rfl), ?_, fun a c z1 z2 z3 z4 => u2_no _ _ (by omega)⟩
    rw [md_no id]
    exact ⟨⟨h1.same (fun k => u2_no _ _ (by omega)) (u2_no _ _ (by omega)) (fun _ => rfl), ⟨q, h2, by rw [u2_no _ _ (by omega)]; exact h3⟩, ⟨nm.length, h6.1, by rw [u2_no _ _ (by omega)]; exact h5.1⟩⟩, u2_at _ _ _ _, by omega, by omega⟩
  | some f =>
    have h' : FRd b N f I J := h
    exact ⟨I, failF h'.2.1 h'.2.2.1 h'.2.2.2 _, h, Fo.refl I⟩
end MO
