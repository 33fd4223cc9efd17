/-! ===== 40: the heap behind the constructors, as a shape that is filled with numbers ===== -/
/-- of each cell: 0 int, 1 long, 2 byte, 3 boolean, 4 World, 5 int[] arrays; 10 + c an object of class c -/
def kdL : List Nat := [19, 16, 2, 18, 0, 0, 5, 0, 0, 0, 0, 0, 0, 5, 0, 0, 0, 0, 5, 0, 0, 0, 0, 0, 0, 0, 0, 0, 0, 1, 5, 0, 0, 0, 0, 0, 0, 0, 0, 0, 0, 0, 0, 5, 0, 0, 0, 0, 18, 0, 0, 5, 0, 0, 0, 0, 0, 0, 5, 0, 0, 0, 0, 5, 0, 0, 0, 0, 0, 0, 0, 0, 0, 0, 1, 5, 0, 0, 0, 0, 0, 0, 0, 0, 0, 0, 0, 0, 5, 0, 0, 0, 0, 4, 14, 1, 0, 0, 17, 1, 12, 0, 3, 0, 5, 0, 0, 0, 0, 1, 0, 11, 0, 1, 0, 15, 0, 0, 10, 5, 0, 0, 0, 0, 0, 0, 0, 0, 0, 0, 0, 0, 13, 2, 18, 0, 0, 5, 0, 0, 0, 0, 0, 0, 5, 0, 0, 0, 0, 5, 0, 0, 0, 0, 0, 0, 0, 0, 0, 0, 1, 5, 0, 0, 0, 0, 0, 0, 0, 0, 0, 0, 0, 0, 5, 0, 0, 0, 0, 18, 0, 0, 5, 0, 0, 0, 0, 0, 0, 5, 0, 0, 0, 0, 5, 0, 0, 0, 0, 0, 0, 0, 0, 0, 0, 1, 5, 0, 0, 0, 0, 0, 0, 0, 0, 0, 0, 0, 0, 5, 0, 0, 0, 0, 20, 0, 0, 0, 0, 3, 2, 1, 0, 0, 1, 1, 0, 0, 1]
def lnL : List Nat := [0, 0, 900, 0, 14, 6, 6, 4, 4, 4, 4, 4, 4, 4, 2, 2, 2, 2, 10, 12, 12, 12, 12, 12, 12, 12, 12, 12, 12, 10, 12, 4, 4, 4, 4, 4, 4, 4, 4, 4, 4, 4, 4, 4, 2, 2, 2, 2, 0, 14, 6, 6, 4, 4, 4, 4, 4, 4, 4, 2, 2, 2, 2, 10, 12, 12, 12, 12, 12, 12, 12, 12, 12, 12, 10, 12, 4, 4, 4, 4, 4, 4, 4, 4, 4, 4, 4, 4, 4, 2, 2, 2, 2, 2, 0, 26, 26, 26, 0, 30, 0, 6, 10, 10, 4, 10, 10, 10, 10, 10, 10, 0, 10, 11, 6, 0, 11, 11, 0, 12, 4, 4, 4, 4, 4, 4, 4, 4, 4, 4, 4, 4, 0, 480, 0, 14, 6, 6, 4, 4, 4, 4, 4, 4, 4, 2, 2, 2, 2, 10, 12, 12, 12, 12, 12, 12, 12, 12, 12, 12, 10, 12, 4, 4, 4, 4, 4, 4, 4, 4, 4, 4, 4, 4, 4, 2, 2, 2, 2, 0, 14, 6, 6, 4, 4, 4, 4, 4, 4, 4, 2, 2, 2, 2, 10, 12, 12, 12, 12, 12, 12, 12, 12, 12, 12, 10, 12, 4, 4, 4, 4, 4, 4, 4, 4, 4, 4, 4, 4, 4, 2, 2, 2, 2, 0, 232, 232, 2784, 464, 2, 900, 26, 26, 26, 10, 12, 6, 600, 1]
/-- fields: 0 an int, 1 a long, 2 + r the cell r -/
def fdL : List (List Nat) := [[3, 5, 50, 95, 96, 102, 113, 117, 120, 134, 0], [4, 0], [], [6, 7, 8, 15, 20, 31, 32, 45], [], [], [], [], [], [], [], [], [], [], [], [], [], [], [], [], [], [], [], [], [], [], [], [], [], [], [], [], [], [], [], [], [], [], [], [], [], [], [], [], [], [], [], [], [51, 52, 53, 60, 65, 76, 77, 90], [], [], [], [], [], [], [], [], [], [], [], [], [], [], [], [], [], [], [], [], [], [], [], [], [], [], [], [], [], [], [], [], [], [], [], [], [], [], [], [], [], [], [], [], [], [100, 50, 97, 98, 99, 0, 0, 0], [], [], [], [4, 101, 0, 0, 0, 0, 0, 1], [], [5, 103, 104, 0, 105, 106, 111, 112], [], [], [], [], [], [], [], [], [], [], [5, 102, 114, 115, 0, 0, 1, 0, 116, 0, 0], [], [], [], [5, 102, 118, 119, 0], [], [], [121, 0, 0], [], [], [], [], [], [], [], [], [], [], [], [], [], [135, 0], [], [137, 138, 139, 146, 151, 162, 163, 176], [], [], [], [], [], [], [], [], [], [], [], [], [], [], [], [], [], [], [], [], [], [], [], [], [], [], [], [], [], [], [], [], [], [], [], [], [], [], [], [], [], [], [], [], [182, 183, 184, 191, 196, 207, 208, 221], [], [], [], [], [], [], [], [], [], [], [], [], [], [], [], [], [], [], [], [], [], [], [], [], [], [], [], [], [], [], [], [], [], [], [], [], [], [], [], [], [], [], [], [], [0, 227, 228, 229, 230, 231, 0, 232, 0, 0, 0, 0, 0, 0, 1, 0, 0, 233, 234, 235, 0, 236, 0, 0, 0, 0, 237, 0, 0, 238, 0, 0, 239, 0], [], [], [], [], [], [], [], [], [], [], [], [], [], []]
/-- an object's fields -/
def fv (w : Nat) (x : Int32) (y : Int64) : PV := match w with
  | 0 => .inl x
  | 1 => .inr (.inl y)
  | r + 2 => .inr (.inr (some r))
def rf (fs : List Nat) (i : Nat → Int32) (j : Nat → Int64) : List PV := (List.range fs.length).map (fun f => fv (fs.getD f 0) (i f) (j f))
def ptQ (k : Nat) : Nat → Option Nat := if k = 93 then va_up (va_up (fun _ => none) 0 (some 134)) 1 (some 179) else fun i => if i < lnL.getD k 0 then some (k + 1 + i) else none
def shc (k : Nat) (i : Nat → Int32) (j : Nat → Int64) : Option PC := match kdL[k]? with
  | some 0 => some (.inr (0, lnL.getD k 0, .inl i))
  | some 1 => some (.inr (1, lnL.getD k 0, .inr (.inl j)))
  | some 2 => some (.inr (2, lnL.getD k 0, .inl i))
  | some 3 => some (.inr (3, lnL.getD k 0, .inl i))
  | some 4 => some (.inr (4, lnL.getD k 0, .inr (.inr (ptQ k))))
  | some 5 => some (.inr (5, lnL.getD k 0, .inr (.inr (ptQ k))))
  | some c => some (.inl (c - 10, rf (fdL.getD k []) i j))
  | none => none
def mk (n : Nat) (I : Nat → Nat → Int32) (J : Nat → Nat → Int64) : PH := (n, fun k => shc k (I k) (J k))
/-- one number told anew -/
def u2 {α : Type} (I : Nat → Nat → α) (k f : Nat) (x : α) : Nat → Nat → α := fun a b => if a = k ∧ b = f then x else I a b
theorem u2_row {α : Type} (I : Nat → Nat → α) (k f : Nat) (x : α) : u2 I k f x k = fun b => if b = f then x else I k b := by
  funext b
  simp [u2]
theorem u2_rowI (I : Nat → Nat → Int32) (k f : Nat) (x : Int32) : u2 I k f x k = upd (I k) f x := by
  funext b
  simp [u2, upd]
theorem u2_rowJ (I : Nat → Nat → Int64) (k f : Nat) (x : Int64) : u2 I k f x k = vp_updL (I k) f x := by
  funext b
  simp [u2, vp_updL]
theorem u2_ne {α : Type} {I : Nat → Nat → α} {k f a : Nat} {x : α} (h : a ≠ k) : u2 I k f x a = I a := by
  funext b
  simp [u2, h]
/-- shapes, by decidable tests -/
def isI (k t n : Nat) : Bool := kdL[k]? == some t && lnL.getD k 0 == n && (t == 0 || t == 2 || t == 3)
def isJ (k n : Nat) : Bool := kdL[k]? == some 1 && lnL.getD k 0 == n
/-- a field: 0 an int, 1 a long, 2 + r the cell r -/
def isF (k c f w : Nat) : Bool := kdL[k]? == some (c + 10) && (fdL.getD k [])[f]? == some w
def isC (k c : Nat) : Bool := kdL[k]? == some (c + 10)
def isQ (k t n : Nat) : Bool := kdL[k]? == some t && lnL.getD k 0 == n && (t == 4 || t == 5)
section MK
variable {n : Nat} {I : Nat → Nat → Int32} {J : Nat → Nat → Int64}
theorem isI_sp {k t len : Nat} (h : isI k t len = true) (i : Nat → Int32) (j : Nat → Int64) : shc k i j = some (.inr (t, len, .inl i)) := by
  unfold isI at h
  simp only [Bool.and_eq_true, beq_iff_eq, Bool.or_eq_true] at h
  obtain ⟨⟨h1, h2⟩, h3⟩ := h
  unfold shc
  rw [h1, h2]
  rcases h3 with (rfl | rfl) | rfl <;> rfl
theorem isJ_sp {k len : Nat} (h : isJ k len = true) (i : Nat → Int32) (j : Nat → Int64) : shc k i j = some (.inr (1, len, .inr (.inl j))) := by
  unfold isJ at h
  simp only [Bool.and_eq_true, beq_iff_eq] at h
  unfold shc
  rw [h.1, h.2]
  rfl
theorem isC_sp {k c : Nat} (h : isC k c = true) (i : Nat → Int32) (j : Nat → Int64) : shc k i j = some (.inl (c, rf (fdL.getD k []) i j)) := by
  unfold isC at h
  simp only [beq_iff_eq] at h
  unfold shc
  rw [h]
  show some (Sum.inl (c + 10 - 10, _)) = _
  rw [Nat.add_sub_cancel]
theorem isF_sp {k c f w : Nat} (h : isF k c f w = true) : isC k c = true ∧ (fdL.getD k [])[f]? = some w := by
  unfold isF at h
  simp only [Bool.and_eq_true, beq_iff_eq] at h
  exact ⟨by unfold isC; simp [h.1], h.2⟩
theorem isQ_sp {k t len : Nat} (h : isQ k t len = true) (i : Nat → Int32) (j : Nat → Int64) : shc k i j = some (.inr (t, len, .inr (.inr (ptQ k)))) := by
  unfold isQ at h
  simp only [Bool.and_eq_true, beq_iff_eq, Bool.or_eq_true] at h
  obtain ⟨⟨h1, h2⟩, h3⟩ := h
  unfold shc
  rw [h1, h2]
  rcases h3 with rfl | rfl <;> rfl
theorem rf_at {fs : List Nat} {f w : Nat} (hf : fs[f]? = some w) (i : Nat → Int32) (j : Nat → Int64) : (rf fs i j)[f]? = some (fv w (i f) (j f)) := by
  unfold rf
  rw [List.getElem?_map, List.getElem?_range (List.getElem?_eq_some_iff.mp hf).1]
  simp only [Option.map_some]
  rw [List.getD_eq_getElem?_getD, hf]
  rfl
theorem mk_isO {k c : Nat} (h : isC k c = true) : isO (mk n I J) k c = true := by
  unfold isO
  show (match shc k (I k) (J k) with | some (.inl (c', _)) => decide (c' = c) | _ => false) = true
  rw [isC_sp h]
  simp
theorem mk_oO {α : Type} {k c : Nat} (h : isC k c = true) {x : Option α} : oO (mk n I J) k c x = x := by
  unfold oO
  rw [if_pos (mk_isO h)]
theorem mk_gI {k c f : Nat} (h : isF k c f 0 = true) : gI c f (mk n I J) k = some (I k f) := by
  obtain ⟨hc, hx⟩ := isF_sp h
  unfold gI
  show (match shc k (I k) (J k) with | some (.inl (c', fs)) => if c' = c then (match fs[f]? with | some (.inl x) => some x | _ => none) else none | _ => none) = _
  rw [isC_sp hc]
  simp only [if_true]
  rw [rf_at hx]
  rfl
theorem mk_gL {k c f : Nat} (h : isF k c f 1 = true) : gL c f (mk n I J) k = some (J k f) := by
  obtain ⟨hc, hx⟩ := isF_sp h
  unfold gL
  show (match shc k (I k) (J k) with | some (.inl (c', fs)) => if c' = c then (match fs[f]? with | some (.inr (.inl x)) => some x | _ => none) else none | _ => none) = _
  rw [isC_sp hc]
  simp only [if_true]
  rw [rf_at hx]
  rfl
theorem mk_gR {k c f r : Nat} (h : isF k c f (r + 2) = true) : gR c f (mk n I J) k = some r := by
  obtain ⟨hc, hx⟩ := isF_sp h
  unfold gR
  show (match shc k (I k) (J k) with | some (.inl (c', fs)) => if c' = c then (match fs[f]? with | some (.inr (.inr (some x))) => some x | _ => none) else none | _ => none) = _
  rw [isC_sp hc]
  simp only [if_true]
  rw [rf_at hx]
  rfl
theorem mk_aI {k t len : Nat} (h : isI k t len = true) (i : Int32) : aI t (mk n I J) k i = if 0 ≤ i.toInt ∧ i.toInt < len then some (I k i.toNatClampNeg) else none := by
  unfold aI
  show (match shc k (I k) (J k) with | some (.inr (t', n', .inl f)) => if t' = t ∧ 0 ≤ i.toInt ∧ i.toInt < n' then some (f i.toNatClampNeg) else none | _ => none) = _
  rw [isI_sp h]
  simp
theorem mk_aL {k len : Nat} (h : isJ k len = true) (i : Int32) : aL (mk n I J) k i = if 0 ≤ i.toInt ∧ i.toInt < len then some (J k i.toNatClampNeg) else none := by
  unfold aL
  show (match shc k (I k) (J k) with | some (.inr (t', n', .inr (.inl f))) => if t' = 1 ∧ 0 ≤ i.toInt ∧ i.toInt < n' then some (f i.toNatClampNeg) else none | _ => none) = _
  rw [isJ_sp h]
  simp
theorem mk_aN {k t len : Nat} (h : isI k t len = true) : aN t (mk n I J) k = some (Int32.ofNat len) := by
  unfold aN
  show (match shc k (I k) (J k) with | some (.inr (t', n', _)) => if t' = t then some (Int32.ofNat n') else none | _ => none) = _
  rw [isI_sp h]
  simp
theorem mk_aNJ {k len : Nat} (h : isJ k len = true) : aN 1 (mk n I J) k = some (Int32.ofNat len) := by
  unfold aN
  show (match shc k (I k) (J k) with | some (.inr (t', n', _)) => if t' = 1 then some (Int32.ofNat n') else none | _ => none) = _
  rw [isJ_sp h]
  simp
theorem mk_aNQ {k t len : Nat} (h : isQ k t len = true) : aN t (mk n I J) k = some (Int32.ofNat len) := by
  unfold aN
  show (match shc k (I k) (J k) with | some (.inr (t', n', _)) => if t' = t then some (Int32.ofNat n') else none | _ => none) = _
  rw [isQ_sp h]
  simp
theorem mk_aR {k t len : Nat} (h : isQ k t len = true) (i : Int32) : aR t (mk n I J) k i = if 0 ≤ i.toInt ∧ i.toInt < len then ptQ k i.toNatClampNeg else none := by
  unfold aR
  show (match shc k (I k) (J k) with | some (.inr (t', n', .inr (.inr f))) => if t' = t ∧ 0 ≤ i.toInt ∧ i.toInt < n' then f i.toNatClampNeg else none | _ => none) = _
  rw [isQ_sp h]
  simp only [true_and]
theorem mk_up {k : Nat} {e : PC} {i' : Nat → Int32} {j' : Nat → Int64} {I' : Nat → Nat → Int32} {J' : Nat → Nat → Int64} (he : shc k i' j' = some e) (hI : ∀ a, a ≠ k → I' a = I a) (hJ : ∀ a, a ≠ k → J' a = J a) (hi : I' k = i') (hj : J' k = j') : ((mk n I J).1, va_up (mk n I J).2 k (some e)) = mk n I' J' := by
  unfold mk
  refine congrArg (Prod.mk n) (funext fun a => ?_)
  by_cases ha : a = k
  · subst ha
    simp only [va_up, if_true]
    rw [hi, hj, he]
  · simp only [va_up, if_neg ha]
    rw [hI a ha, hJ a ha]
theorem mk_sI {k len : Nat} (h : isI k 0 len = true) (i x : Int32) : sI (mk n I J) k i x = if 0 ≤ i.toInt ∧ i.toInt < len then some (mk n (u2 I k i.toNatClampNeg x) J) else none := by
  unfold sI
  show (match shc k (I k) (J k) with | some (.inr (t', n', .inl f)) => if t' = 0 ∧ 0 ≤ i.toInt ∧ i.toInt < n' then some ((mk n I J).1, va_up (mk n I J).2 k (some (.inr (0, n', .inl (upd f i.toNatClampNeg x))))) else none | _ => none) = _
  rw [isI_sp h]
  simp only [true_and]
  rw [mk_up (I' := u2 I k i.toNatClampNeg x) (J' := J) (isI_sp h _ (J k)) (fun a ha => u2_ne ha) (fun a ha => rfl) (u2_rowI _ _ _ _) rfl]
theorem mk_sB {k t len : Nat} {ty : FieldType} (h : isI k t len = true) (i x : Int32) : sB t ty (mk n I J) k i x = if 0 ≤ i.toInt ∧ i.toInt < len then some (mk n (u2 I k i.toNatClampNeg (vp_nar ty x)) J) else none := by
  unfold sB
  show (match shc k (I k) (J k) with | some (.inr (t', n', .inl f)) => if t' = t ∧ 0 ≤ i.toInt ∧ i.toInt < n' then some ((mk n I J).1, va_up (mk n I J).2 k (some (.inr (t, n', .inl (upd f i.toNatClampNeg (vp_nar ty x)))))) else none | _ => none) = _
  rw [isI_sp h]
  simp only [true_and]
  rw [mk_up (I' := u2 I k i.toNatClampNeg (vp_nar ty x)) (J' := J) (isI_sp h _ (J k)) (fun a ha => u2_ne ha) (fun a ha => rfl) (u2_rowI _ _ _ _) rfl]
theorem mk_sL {k len : Nat} (h : isJ k len = true) (i : Int32) (x : Int64) : sL (mk n I J) k i x = if 0 ≤ i.toInt ∧ i.toInt < len then some (mk n I (u2 J k i.toNatClampNeg x)) else none := by
  unfold sL
  show (match shc k (I k) (J k) with | some (.inr (t', n', .inr (.inl f))) => if t' = 1 ∧ 0 ≤ i.toInt ∧ i.toInt < n' then some ((mk n I J).1, va_up (mk n I J).2 k (some (.inr (1, n', .inr (.inl (vp_updL f i.toNatClampNeg x)))))) else none | _ => none) = _
  rw [isJ_sp h]
  simp only [true_and]
  rw [mk_up (I' := I) (J' := u2 J k i.toNatClampNeg x) (isJ_sp h (I k) _) (fun a ha => rfl) (fun a ha => u2_ne ha) rfl (u2_rowJ _ _ _ _)]
theorem rf_set {fs : List Nat} {f : Nat} {i : Nat → Int32} {j : Nat → Int64} {v : PV} {i' : Nat → Int32} {j' : Nat → Int64} {w : Nat} (hf : fs[f]? = some w) (hv : fv w (i' f) (j' f) = v) (hi : ∀ a, a ≠ f → i' a = i a) (hj : ∀ a, a ≠ f → j' a = j a) : (rf fs i j).set f v = rf fs i' j' := by
  have hl : ∀ i j, (rf fs i j).length = fs.length := by intro i j; unfold rf; simp
  have hlt := (List.getElem?_eq_some_iff.mp hf).1
  apply List.ext_getElem?
  intro a
  by_cases ha : a < fs.length
  · by_cases haf : a = f
    · subst haf
      rw [List.getElem?_set_self (by rw [hl]; exact ha), rf_at hf, hv]
    · rw [List.getElem?_set_ne (Ne.symm haf), rf_at (List.getElem?_eq_getElem ha), rf_at (List.getElem?_eq_getElem ha), hi a haf, hj a haf]
  · rw [List.getElem?_eq_none (by rw [List.length_set, hl]; omega), List.getElem?_eq_none (by rw [hl]; omega)]
theorem mk_pI {k c f : Nat} (h : isF k c f 0 = true) (x : Int32) : pF c f (mk n I J) k (.inl x) = some (mk n (u2 I k f x) J) := by
  obtain ⟨hc, hx⟩ := isF_sp h
  have hl : (rf (fdL.getD k []) (I k) (J k)).length = (fdL.getD k []).length := by unfold rf; simp
  have hlt := (List.getElem?_eq_some_iff.mp hx).1
  unfold pF
  show (match shc k (I k) (J k) with | some (.inl (c', fs)) => if c' = c ∧ f < fs.length then some ((mk n I J).1, va_up (mk n I J).2 k (some (.inl (c, fs.set f (.inl x))))) else none | _ => none) = _
  rw [isC_sp hc]
  simp only [hl, hlt, and_true, if_true]
  rw [rf_set (v := .inl x) (i' := u2 I k f x k) (j' := J k) hx (by simp [u2, fv]) (fun a ha => by simp [u2, ha]) (fun a _ => rfl)]
  rw [mk_up (I' := u2 I k f x) (J' := J) (isC_sp hc _ (J k)) (fun a ha => u2_ne ha) (fun a ha => rfl) rfl rfl]
theorem mk_pL {k c f : Nat} (h : isF k c f 1 = true) (x : Int64) : pF c f (mk n I J) k (.inr (.inl x)) = some (mk n I (u2 J k f x)) := by
  obtain ⟨hc, hx⟩ := isF_sp h
  have hl : (rf (fdL.getD k []) (I k) (J k)).length = (fdL.getD k []).length := by unfold rf; simp
  have hlt := (List.getElem?_eq_some_iff.mp hx).1
  unfold pF
  show (match shc k (I k) (J k) with | some (.inl (c', fs)) => if c' = c ∧ f < fs.length then some ((mk n I J).1, va_up (mk n I J).2 k (some (.inl (c, fs.set f (.inr (.inl x)))))) else none | _ => none) = _
  rw [isC_sp hc]
  simp only [hl, hlt, and_true, if_true]
  rw [rf_set (v := .inr (.inl x)) (i' := I k) (j' := u2 J k f x k) hx (by simp [u2, fv]) (fun a _ => rfl) (fun a ha => by simp [u2, ha])]
  rw [mk_up (I' := I) (J' := u2 J k f x) (isC_sp hc (I k) _) (fun a ha => rfl) (fun a ha => u2_ne ha) rfl rfl]
end MK

