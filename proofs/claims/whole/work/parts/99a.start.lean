/-! ===== 99a: the heap behind the constructors ===== -/
theorem st_n : (mL_start.map fun r => (r.1, r.2.1, r.2.2.1, r.2.2.2.1)) = some (0, 224, 238, 239) := by decide +kernel
/-- nothing lies beyond, and references end where their array ends -/
def QB (h : PH) : Prop := (∀ k, h.1 ≤ k → h.2 k = none) ∧ ∀ k t n f, h.2 k = some (.inr (t, n, .inr (.inr f))) → ∀ i, n ≤ i → f i = none
def PQ (c : Option PH) : Prop := ∀ h', c = some h' → QB h'
def eQ (e : PC) : Prop := ∀ t n f, e = .inr (t, n, .inr (.inr f)) → ∀ i, n ≤ i → f i = none
theorem QB.up {h : PH} (hq : QB h) {a : Nat} {c e : PC} (hc : h.2 a = some c) (he : eQ e) : QB (h.1, va_up h.2 a (some e)) := by
  refine ⟨fun k hk => ?_, fun k t n f hf i hi => ?_⟩
  · have hka : k ≠ a := fun z => by
      rw [← z, hq.1 k hk] at hc
      cases hc
    show va_up h.2 a (some e) k = none
    unfold va_up
    rw [if_neg hka]
    exact hq.1 k hk
  · have hf' : va_up h.2 a (some e) k = some (.inr (t, n, .inr (.inr f))) := hf
    unfold va_up at hf'
    by_cases hka : k = a
    · rw [if_pos hka] at hf'
      exact he t n f (Option.some.inj hf') i hi
    · rw [if_neg hka] at hf'
      exact hq.2 k t n f hf' i hi
theorem QB.new {h : PH} (hq : QB h) {e : PC} (he : eQ e) : QB (h.1 + 1, va_up h.2 h.1 (some e)) := by
  refine ⟨fun k hk => ?_, fun k t n f hf i hi => ?_⟩
  · have hk' : h.1 + 1 ≤ k := hk
    show va_up h.2 h.1 (some e) k = none
    unfold va_up
    rw [if_neg (by omega)]
    exact hq.1 k (by omega)
  · have hf' : va_up h.2 h.1 (some e) k = some (.inr (t, n, .inr (.inr f))) := hf
    unfold va_up at hf'
    by_cases hka : k = h.1
    · rw [if_pos hka] at hf'
      exact he t n f (Option.some.inj hf') i hi
    · rw [if_neg hka] at hf'
      exact hq.2 k t n f hf' i hi
theorem PQ.some {h : PH} (hq : QB h) : PQ (some h) := fun h' e => by cases e; exact hq
theorem PQ.none : PQ none := fun h' e => by cases e
theorem PQ.oO {h : PH} {a ci : Nat} {x : Option PH} (hx : PQ x) : PQ (oO h a ci x) := fun h' e => hx h' (oO_sp e).2
theorem PQ.ite {c : Prop} [Decidable c] {x y : Option PH} (hx : PQ x) (hy : PQ y) : PQ (if c then x else y) := by
  split
  · exact hx
  · exact hy
theorem PQ.br {α : Type} {o : Option α} {f : α → Option PH} (h : ∀ v, PQ (f v)) : PQ (o.bind f) := fun h' e => by
  cases o with
  | none => cases e
  | some v => exact h v h' e
theorem PQ.bh {o : Option PH} {f : PH → Option PH} (ho : PQ o) (h : ∀ v, QB v → PQ (f v)) : PQ (o.bind f) := fun h' e => by
  cases o with
  | none => cases e
  | some v => exact h v (ho v rfl) h' e
theorem PQ.al {e : PC} {h : PH} {f : Nat → PH → Option PH} (hq : QB h) (he : eQ e) (hf : ∀ n h', QB h' → PQ (f n h')) : PQ (al e h f) := hf _ _ (hq.new he)
theorem PQ.al2 {n k : Nat} {h : PH} {f : Nat → PH → Option PH} (hq : QB h) (hf : ∀ n h', QB h' → PQ (f n h')) : PQ (al2 n k h f) := by
  refine hf _ _ ⟨fun a ha => ?_, fun a t m g hg i hi => ?_⟩
  · have ha' : h.1 + 1 + n ≤ a := ha
    show (if a = h.1 then _ else if h.1 < a ∧ a ≤ h.1 + n then _ else _) = Option.none
    rw [if_neg (by omega), if_neg (by omega)]
    exact hq.1 a (by omega)
  · have hg' : (if a = h.1 then _ else if h.1 < a ∧ a ≤ h.1 + n then _ else _) = Option.some (Sum.inr (t, m, Sum.inr (Sum.inr g))) := hg
    by_cases h1 : a = h.1
    · rw [if_pos h1] at hg'
      cases hg'
      exact if_neg (by omega)
    · rw [if_neg h1] at hg'
      by_cases h2 : h.1 < a ∧ a ≤ h.1 + n
      · rw [if_pos h2] at hg'
        cases hg'
      · rw [if_neg h2] at hg'
        exact hq.2 a t m g hg' i hi
theorem eQ_o {c : Nat} {fs : List PV} : eQ (.inl (c, fs)) := fun t n f z => by cases z
theorem eQ_i {t n : Nat} {f : Nat → Int32} : eQ (.inr (t, n, .inl f)) := fun t n f z => by cases z
theorem eQ_l {t n : Nat} {f : Nat → Int64} : eQ (.inr (t, n, .inr (.inl f))) := fun t n f z => by cases z
theorem eQ_r {t n : Nat} : eQ (.inr (t, n, .inr (.inr (fun _ => none)))) := fun t n f z => by cases z; exact fun _ _ => rfl
theorem pq_pF {ci k a : Nat} {h : PH} {v : PV} (hq : QB h) : PQ (pF ci k h a v) := fun h' e => by
  unfold pF at e
  split at e
  · rename_i c fs hc
    split at e
    · cases e; exact hq.up hc eQ_o
    · cases e
  · cases e
theorem pq_sI {a : Nat} {h : PH} {i x : Int32} (hq : QB h) : PQ (sI h a i x) := fun h' e => by
  unfold sI at e
  split at e
  · rename_i hc
    split at e
    · cases e; exact hq.up hc eQ_i
    · cases e
  · cases e
theorem pq_sL {a : Nat} {h : PH} {i : Int32} {x : Int64} (hq : QB h) : PQ (sL h a i x) := fun h' e => by
  unfold sL at e
  split at e
  · rename_i hc
    split at e
    · cases e; exact hq.up hc eQ_l
    · cases e
  · cases e
theorem pq_sR {a x : Nat} {h : PH} {i : Int32} (hq : QB h) : PQ (sR h a i x) := fun h' e => by
  unfold sR at e
  split at e
  · rename_i t' n f hc
    split at e
    · rename_i hb
      split at e
      · cases e
        refine hq.up hc (fun t n' g z j hj => ?_)
        cases z
        unfold va_up
        have hlt : i.toNatClampNeg < n := by
          have h1 := hb.2.1
          have h2 := hb.2.2
          have : i.toNatClampNeg = i.toInt.toNat := rfl
          omega
        rw [if_neg (by omega)]
        exact hq.2 _ _ _ _ hc j hj
      · cases e
    · cases e
  · cases e
