/-! ===== 04: the pure heap: what the cells from B on hold, by their numbers from 0 on; rows of the machine over it ===== -/
abbrev PV : Type := Int32 ⊕ Int64 ⊕ Option Nat
abbrev PA : Type := (Nat → Int32) ⊕ (Nat → Int64) ⊕ (Nat → Option Nat)
abbrev PC : Type := (Nat × List PV) ⊕ (Nat × Nat × PA)
abbrev PH : Type := Nat × (Nat → Option PC)
abbrev GD : Type := va_G × (Nat → ClassId) × Nat × (Nat → Nat) × (Nat → Nat) × (Nat → Nat)
abbrev gB (g : GD) : Nat := g.2.2.1
/-- where the static arrays lie; the texts, their bytes -/
abbrev gS (g : GD) : Nat → Nat := g.2.2.2.1
abbrev gK (g : GD) : Nat → Nat := g.2.2.2.2.1
abbrev gV (g : GD) : Nat → Nat := g.2.2.2.2.2
def tv (B : Nat) : PV → Value
  | .inl x => .int x
  | .inr (.inl y) => .long y
  | .inr (.inr r) => va_rf (r.map (fun a => B + a))
def te (cy : Nat → ClassId) (B : Nat) : PC → va_E
  | .inl (ci, fs) => .inr (ci, fs.map (tv B))
  | .inr (t, n, .inl f) => .inl (cy t, n, .inl f)
  | .inr (t, n, .inr (.inl f)) => .inl (cy t, n, .inr (.inl f))
  | .inr (t, n, .inr (.inr q)) => .inl (cy t, n, .inr (.inr (.inr (.inr (fun i => (q i).map (fun a => B + a))))))
def tys (g : GD) : List (ClassId × FieldType) := [(g.2.1 0, .int), (g.2.1 1, .long), (g.2.1 2, .byte), (g.2.1 3, .boolean), (g.2.1 4, .object RX8), (g.2.1 5, .array .int)]
/-- the heap H holds the pure heap h from B on, and nothing beyond it -/
def hh (g : GD) (H : Heap) (h : PH) : Prop := H.size = gB g + h.1 ∧ ∀ (a : Nat) (e : PC), h.2 a = some e → va_at g.1 vwCl (gB g + a, te g.2.1 (gB g) e) H
def stab : List (String × Nat × (Nat → Int32)) := [("RULE_LEAST", 4, fun i => [0, 1, 0, 0].getD i 0), ("RULE_MOST", 4, fun i => [50, 999, 90, 99].getD i 0), ("RULE_WITHOUT", 4, fun i => [5, 30, 20, 10].getD i 0), ("ORDER", 6, fun i => [1, 2, 3, 4, 5, 6].getD i 0), ("ORDER_TURNED", 6, fun i => [1, 2, 3, 5, 4, 6].getD i 0)]
/-- the static arrays: below B, never written -/
def sg (g : GD) (U : State) : Prop := ∀ (i : Nat) (q : String × Nat × (Nat → Int32)), stab[i]? = some q → va_Z RX9 q.1 "[I" (.ref (gS g i)) (fun a => gB g ≤ a) U U.heap ∧ va_T .int (gS g i) q.2.1 (fun j => .int (q.2.2 j)) (fun a => gB g ≤ a) U U.heap
def nestF : List (String × Nat × String) := [(RX8, 48, "RULE_WITHOUT"), (RX4, 161, "RULE_LEAST"), (RX4, 164, "RULE_MOST"), (RX1, 155, "ORDER_TURNED"), (RX1, 158, "ORDER")]
def nestM : List (String × Nat × MethodName) := [(RX9, 11, yX6_init), (RX9, 66, yX0_init), (RX9, 73, yX3_init), (RX2, 97, yX9_cut), (RX1, 109, yX9_cut)]
/-- links to what is private to a nest mate -/
def nw (U : State) : Prop := (∀ q ∈ nestF, va_Nw (.fieldLinkNest q.1 q.2.1 RX9 q.2.2 "[I" RX9) U) ∧ ∀ q ∈ nestM, va_Nw (.methodLinkNest q.1 q.2.1 q.2.2 RX9) U
def strT : List (String × Nat × String) := [(RX7, 22, "party kin good assist sale resold made band near window margin duty"), (RX7, 28, "group land worth first by pieces price day cost profit from less"), (RX7, 30, "bound royalty fee packing freight uses"), (RX9, 256, " fails ; "), (RX9, 262, " by "), (RX9, 267, " worth "), (RX9, 269, " ; ")]
def strL : List Nat := [67, 64, 38, 9, 4, 7, 3]
def strB : List (List Int32) := [[112, 97, 114, 116, 121, 32, 107, 105, 110, 32, 103, 111, 111, 100, 32, 97, 115, 115, 105, 115, 116, 32, 115, 97, 108, 101, 32, 114, 101, 115, 111, 108, 100, 32, 109, 97, 100, 101, 32, 98, 97, 110, 100, 32, 110, 101, 97, 114, 32, 119, 105, 110, 100, 111, 119, 32, 109, 97, 114, 103, 105, 110, 32, 100, 117, 116, 121], [103, 114, 111, 117, 112, 32, 108, 97, 110, 100, 32, 119, 111, 114, 116, 104, 32, 102, 105, 114, 115, 116, 32, 98, 121, 32, 112, 105, 101, 99, 101, 115, 32, 112, 114, 105, 99, 101, 32, 100, 97, 121, 32, 99, 111, 115, 116, 32, 112, 114, 111, 102, 105, 116, 32, 102, 114, 111, 109, 32, 108, 101, 115, 115], [98, 111, 117, 110, 100, 32, 114, 111, 121, 97, 108, 116, 121, 32, 102, 101, 101, 32, 112, 97, 99, 107, 105, 110, 103, 32, 102, 114, 101, 105, 103, 104, 116, 32, 117, 115, 101, 115], [32, 102, 97, 105, 108, 115, 32, 59, 32], [32, 98, 121, 32], [32, 119, 111, 114, 116, 104, 32], [32, 59, 32]]
/-- the texts, what String asks of its own class -/
def ks (g : GD) (U : State) : Prop := vk_S 7 strL strB (gK g) (gV g) (fun a => gB g ≤ a) U U.heap ∧ (∀ (i : Nat) (q : String × Nat × String), strT[i]? = some q → vk_R q.1 q.2.1 q.2.2 (gK g i) U) ∧ va_Z "java/lang/String" "COMPACT_STRINGS" "Z" (.int 1) (fun a => gB g ≤ a) U U.heap ∧ va_Zq "jdk/internal/util/Preconditions" "SIOOBE_FORMATTER" "Ljava/util/function/BiFunction;" (fun a => gB g ≤ a) U U.heap
/-- classes of arrays of arrays -/
def ao (U : State) : Prop := va_AO RX8 U ∧ (Cond.arrayOver (.array .int)).before #[] U = true
def kk (g : GD) (U : State) : Prop := va_K g.1 vwCl (tys g) U ∧ sg g U ∧ nw U ∧ ao U ∧ ks g U
theorem kk.moved {g : GD} {s U : State} (hW : s.WarmedH U.vm) (hq : ∀ a : Nat, a < s.heap.size → ¬ gB g ≤ a → U.heap[a]? = s.heap[a]?) (h : kk g s) : kk g U :=
  ⟨va_K.moved hW.alike h.1, fun i q hi => ⟨((h.2.1 i q hi).1.moved hW.alike).kept hq, ((h.2.1 i q hi).2.moved hW.alike).kept hq⟩, ⟨fun q hq => (h.2.2.1.1 q hq).warmF hW, fun q hq => (h.2.2.1.2 q hq).warmM hW⟩, ⟨h.2.2.2.1.1.moved hW.alike, over_moved hW.alike h.2.2.2.1.2⟩, (h.2.2.2.2.1.moved hW.alike).kept hq, fun i q hi => (h.2.2.2.2.2.1 i q hi).warm hW, (h.2.2.2.2.2.2.1.moved hW.alike).kept hq, (h.2.2.2.2.2.2.2.moved hW.alike).kept hq⟩
/-- the words of the tables that every method may take with it -/
def TB : List Cond := lw_tbl.filter goodWord
theorem TB_mem {w : Cond} (i : Nat) (h : lw_tbl[i]? = some w) (hg : goodWord w = true) : w ∈ TB := List.mem_filter.mpr ⟨List.mem_of_getElem? h, hg⟩
theorem TB_in {l : List Cond} (h : ∀ w ∈ l, w ∈ lw_tbl) (hg : l.all goodWord = true) : ∀ w ∈ l, w ∈ TB := fun w hw => List.mem_filter.mpr ⟨h w hw, List.all_eq_true.mp hg w hw⟩
theorem TB_good {w : Cond} (h : w ∈ TB) : goodWord w = true := (List.mem_filter.mp h).2
theorem TB_goodIn {Ts l : List Cond} (ht : ∀ w ∈ TB, w ∈ Ts) (h : ∀ w ∈ l, w ∈ TB) : GoodIn Ts l := fun w hw => ⟨ht w (h w hw), good_of_word (TB_good (h w hw))⟩
/-- the rooms: by how deep the calls go -/
def rmD (d mc ms : Nat) : Room := { frames := d, cells := mc, slots := ms, locals := 41 * d }
/-- what holds in a body all along -/
def CT (g : GD) (own : String) (cc : ByteArray) (nL : Nat) (Ts : List Cond) (p : Program) (s : State) (m : MethodId) (args : Array Value) (meth : Method) (c : Code) : Prop :=
  (p.tables.exec = Jvm.exec ∧ c.code = cc ∧ c.maxLocals = nL ∧ s.vm.findClass own = some m.cls ∧ ∀ w ∈ Ts, w.before args s = true) ∧ (∀ w ∈ TB, w ∈ Ts) ∧ meth.locks = false ∧ kk g s ∧ gB g ≤ s.heap.size
/-- the heap at a point of a body -/
def HS (g : GD) (s : State) (H : Heap) (locs : List Loc) (h : PH) : Prop := hh g H h ∧ va_S (fun q => gB g ≤ q) s.heap H locs
/-- what a method owes at its end -/
abbrev aB (g : GD) : Nat → Prop := fun q => gB g ≤ q
abbrev ar (g : GD) (h : PH) (t : State) : Prop := hh g t.heap h ∧ kk g t
abbrev QcI (g : GD) (r : Int32) (h' : PH) : Array Value → State → Outcome → State → Prop := va_Qi (fun (r' : Int32) (u : PH) => r' = r ∧ u = h') (fun u t => ar g u t) (aB g)
abbrev QcL (g : GD) (r : Int64) (h' : PH) : Array Value → State → Outcome → State → Prop := va_Ql (fun (r' : Int64) (u : PH) => r' = r ∧ u = h') (fun u t => ar g u t) (aB g)
abbrev QcV (g : GD) (h' : PH) : Array Value → State → Outcome → State → Prop := va_Qv (fun (u : PH) => u = h') (fun u t => ar g u t) (aB g)
abbrev PcH (g : GD) (av : List Value) (h : PH) : Array Value → State → Prop := va_Pc av (fun U => ar g h U)
theorem PcH_blind {g : GD} {av : List Value} {h : PH} : FrameBlind (PcH g av h) := fun a U fr mk q => by
  obtain ⟨q0, q1, q2, q3, q4, q5, q6⟩ := q
  exact ⟨q0, q1, va_K.moved (u := U) (U := U.calling fr mk a) (Vm.Alike.refl U.vm) q2, fun i x hi => ⟨(q3 i x hi).1.moved (u := U) (U := U.calling fr mk a) (Vm.Alike.refl U.vm), (q3 i x hi).2.moved (u := U) (U := U.calling fr mk a) (Vm.Alike.refl U.vm)⟩, ⟨fun x hx => va_Nw.same rfl (u := U) (U := U.calling fr mk a) rfl (q4.1 x hx), fun x hx => va_Nw.same rfl (u := U) (U := U.calling fr mk a) rfl (q4.2 x hx)⟩, ⟨q5.1.moved (u := U) (U := U.calling fr mk a) (Vm.Alike.refl U.vm), over_moved (u := U) (E := U.calling fr mk a) (Vm.Alike.refl U.vm) q5.2⟩, q6.1.moved (u := U) (U := U.calling fr mk a) (Vm.Alike.refl U.vm), fun i x hi => (q6.2.1 i x hi).same (u := U) (U := U.calling fr mk a) rfl, q6.2.2.1.moved (u := U) (U := U.calling fr mk a) (Vm.Alike.refl U.vm), q6.2.2.2.moved (u := U) (U := U.calling fr mk a) (Vm.Alike.refl U.vm)⟩
-- the pure operations
def gI (ci k : Nat) (h : PH) (a : Nat) : Option Int32 := match h.2 a with
  | some (.inl (c, fs)) => if c = ci then (match fs[k]? with | some (.inl x) => some x | _ => none) else none
  | _ => none
def gL (ci k : Nat) (h : PH) (a : Nat) : Option Int64 := match h.2 a with
  | some (.inl (c, fs)) => if c = ci then (match fs[k]? with | some (.inr (.inl x)) => some x | _ => none) else none
  | _ => none
def gR (ci k : Nat) (h : PH) (a : Nat) : Option Nat := match h.2 a with
  | some (.inl (c, fs)) => if c = ci then (match fs[k]? with | some (.inr (.inr (some x))) => some x | _ => none) else none
  | _ => none
def isO (h : PH) (a ci : Nat) : Bool := match h.2 a with
  | some (.inl (c, _)) => decide (c = ci)
  | _ => false
def pF (ci k : Nat) (h : PH) (a : Nat) (v : PV) : Option PH := match h.2 a with
  | some (.inl (c, fs)) => if c = ci ∧ k < fs.length then some (h.1, va_up h.2 a (some (.inl (ci, fs.set k v)))) else none
  | _ => none
def aI (t : Nat) (h : PH) (a : Nat) (i : Int32) : Option Int32 := match h.2 a with
  | some (.inr (t', n, .inl f)) => if t' = t ∧ 0 ≤ i.toInt ∧ i.toInt < n then some (f i.toNatClampNeg) else none
  | _ => none
def aL (h : PH) (a : Nat) (i : Int32) : Option Int64 := match h.2 a with
  | some (.inr (t', n, .inr (.inl f))) => if t' = 1 ∧ 0 ≤ i.toInt ∧ i.toInt < n then some (f i.toNatClampNeg) else none
  | _ => none
def aR (t : Nat) (h : PH) (a : Nat) (i : Int32) : Option Nat := match h.2 a with
  | some (.inr (t', n, .inr (.inr f))) => if t' = t ∧ 0 ≤ i.toInt ∧ i.toInt < n then f i.toNatClampNeg else none
  | _ => none
def aN (t : Nat) (h : PH) (a : Nat) : Option Int32 := match h.2 a with
  | some (.inr (t', n, _)) => if t' = t then some (Int32.ofNat n) else none
  | _ => none
def sI (h : PH) (a : Nat) (i x : Int32) : Option PH := match h.2 a with
  | some (.inr (t', n, .inl f)) => if t' = 0 ∧ 0 ≤ i.toInt ∧ i.toInt < n then some (h.1, va_up h.2 a (some (.inr (0, n, .inl (upd f i.toNatClampNeg x))))) else none
  | _ => none
def sB (t : Nat) (ty : FieldType) (h : PH) (a : Nat) (i x : Int32) : Option PH := match h.2 a with
  | some (.inr (t', n, .inl f)) => if t' = t ∧ 0 ≤ i.toInt ∧ i.toInt < n then some (h.1, va_up h.2 a (some (.inr (t, n, .inl (upd f i.toNatClampNeg (vp_nar ty x)))))) else none
  | _ => none
def sL (h : PH) (a : Nat) (i : Int32) (x : Int64) : Option PH := match h.2 a with
  | some (.inr (t', n, .inr (.inl f))) => if t' = 1 ∧ 0 ≤ i.toInt ∧ i.toInt < n then some (h.1, va_up h.2 a (some (.inr (1, n, .inr (.inl (vp_updL f i.toNatClampNeg x)))))) else none
  | _ => none
def tI (k : Nat) (i : Int32) : Option Int32 := match stab[k]? with
  | some q => if 0 ≤ i.toInt ∧ i.toInt < q.2.1 then some (q.2.2 i.toNatClampNeg) else none
  | none => none
/-- a boolean that is returned -/
def rz {α : Type} (v : Int32) (x : α) : Option (Int32 × α) := if v = 0 ∨ v = 1 then some (v, x) else none
/-- a divisor -/
def dz {α : Type} (c : Prop) [Decidable c] (x : Option α) : Option α := if c then none else x
theorem bnd {α β : Type} {o : Option α} {f : α → Option β} {r : β} (h : o.bind f = some r) : ∃ x, o = some x ∧ f x = some r := by
  cases o with
  | none => cases h
  | some x => exact ⟨x, rfl, h⟩
theorem gI_sp {ci k a : Nat} {h : PH} {x : Int32} (e : gI ci k h a = some x) : ∃ fs, h.2 a = some (.inl (ci, fs)) ∧ fs[k]? = some (.inl x) := by
  unfold gI at e
  split at e
  · rename_i c fs hc
    split at e
    · rename_i hci
      split at e
      · rename_i y hy
        cases e
        exact ⟨fs, by rw [hc, hci], hy⟩
      · cases e
    · cases e
  · cases e
theorem gL_sp {ci k a : Nat} {h : PH} {x : Int64} (e : gL ci k h a = some x) : ∃ fs, h.2 a = some (.inl (ci, fs)) ∧ fs[k]? = some (.inr (.inl x)) := by
  unfold gL at e
  split at e
  · rename_i c fs hc
    split at e
    · rename_i hci
      split at e
      · rename_i y hy
        cases e
        exact ⟨fs, by rw [hc, hci], hy⟩
      · cases e
    · cases e
  · cases e
theorem gR_sp {ci k a : Nat} {h : PH} {x : Nat} (e : gR ci k h a = some x) : ∃ fs, h.2 a = some (.inl (ci, fs)) ∧ fs[k]? = some (.inr (.inr (some x))) := by
  unfold gR at e
  split at e
  · rename_i c fs hc
    split at e
    · rename_i hci
      split at e
      · rename_i y hy
        cases e
        exact ⟨fs, by rw [hc, hci], hy⟩
      · cases e
    · cases e
  · cases e
theorem isO_sp {h : PH} {a ci : Nat} (e : isO h a ci = true) : ∃ fs, h.2 a = some (.inl (ci, fs)) := by
  unfold isO at e
  split at e
  · rename_i c fs hc
    exact ⟨fs, by rw [hc, of_decide_eq_true e]⟩
  · cases e
theorem pF_sp {ci k a : Nat} {h h' : PH} {v : PV} (e : pF ci k h a v = some h') : ∃ fs, h.2 a = some (.inl (ci, fs)) ∧ k < fs.length ∧ h' = (h.1, va_up h.2 a (some (.inl (ci, fs.set k v)))) := by
  unfold pF at e
  split at e
  · rename_i c fs hc
    split at e
    · rename_i hci
      cases e
      exact ⟨fs, by rw [hc, hci.1], hci.2, rfl⟩
    · cases e
  · cases e
theorem aI_sp {t a : Nat} {h : PH} {i x : Int32} (e : aI t h a i = some x) : ∃ n f, h.2 a = some (.inr (t, n, .inl f)) ∧ vp_in i n ∧ x = f i.toNatClampNeg := by
  unfold aI at e
  split at e
  · rename_i t' n f hc
    split at e
    · rename_i hci
      cases e
      exact ⟨n, f, by rw [hc, hci.1], vp_in_iff.mpr hci.2, rfl⟩
    · cases e
  · cases e
theorem aL_sp {a : Nat} {h : PH} {i : Int32} {x : Int64} (e : aL h a i = some x) : ∃ n f, h.2 a = some (.inr (1, n, .inr (.inl f))) ∧ vp_in i n ∧ x = f i.toNatClampNeg := by
  unfold aL at e
  split at e
  · rename_i t' n f hc
    split at e
    · rename_i hci
      cases e
      exact ⟨n, f, by rw [hc, hci.1], vp_in_iff.mpr hci.2, rfl⟩
    · cases e
  · cases e
theorem aR_sp {t a : Nat} {h : PH} {i : Int32} {x : Nat} (e : aR t h a i = some x) : ∃ n f, h.2 a = some (.inr (t, n, .inr (.inr f))) ∧ vp_in i n ∧ f i.toNatClampNeg = some x := by
  unfold aR at e
  split at e
  · rename_i t' n f hc
    split at e
    · rename_i hci
      exact ⟨n, f, by rw [hc, hci.1], vp_in_iff.mpr hci.2, e⟩
    · cases e
  · cases e
theorem aN_sp {t a : Nat} {h : PH} {x : Int32} (e : aN t h a = some x) : ∃ n q, h.2 a = some (.inr (t, n, q)) ∧ Int32.ofNat n = x := by
  unfold aN at e
  split at e
  · rename_i t' n q hc
    split at e
    · rename_i hci
      cases e
      exact ⟨n, q, by rw [hc, hci], rfl⟩
    · cases e
  · cases e
theorem sI_sp {a : Nat} {h h' : PH} {i x : Int32} (e : sI h a i x = some h') : ∃ n f, h.2 a = some (.inr (0, n, .inl f)) ∧ vp_in i n ∧ h' = (h.1, va_up h.2 a (some (.inr (0, n, .inl (upd f i.toNatClampNeg x))))) := by
  unfold sI at e
  split at e
  · rename_i t' n f hc
    split at e
    · rename_i hci
      cases e
      exact ⟨n, f, by rw [hc, hci.1], vp_in_iff.mpr hci.2, rfl⟩
    · cases e
  · cases e
theorem sB_sp {t a : Nat} {ty : FieldType} {h h' : PH} {i x : Int32} (e : sB t ty h a i x = some h') : ∃ n f, h.2 a = some (.inr (t, n, .inl f)) ∧ vp_in i n ∧ h' = (h.1, va_up h.2 a (some (.inr (t, n, .inl (upd f i.toNatClampNeg (vp_nar ty x)))))) := by
  unfold sB at e
  split at e
  · rename_i t' n f hc
    split at e
    · rename_i hci
      cases e
      exact ⟨n, f, by rw [hc, hci.1], vp_in_iff.mpr hci.2, rfl⟩
    · cases e
  · cases e
theorem sL_sp {a : Nat} {h h' : PH} {i : Int32} {x : Int64} (e : sL h a i x = some h') : ∃ n f, h.2 a = some (.inr (1, n, .inr (.inl f))) ∧ vp_in i n ∧ h' = (h.1, va_up h.2 a (some (.inr (1, n, .inr (.inl (vp_updL f i.toNatClampNeg x)))))) := by
  unfold sL at e
  split at e
  · rename_i t' n f hc
    split at e
    · rename_i hci
      cases e
      exact ⟨n, f, by rw [hc, hci.1], vp_in_iff.mpr hci.2, rfl⟩
    · cases e
  · cases e
theorem tI_sp {k : Nat} {i x : Int32} (e : tI k i = some x) : ∃ q, stab[k]? = some q ∧ vp_in i q.2.1 ∧ q.2.2 i.toNatClampNeg = x := by
  unfold tI at e
  split at e
  · rename_i q hq
    split at e
    · rename_i hci
      cases e
      exact ⟨q, hq, vp_in_iff.mpr hci, rfl⟩
    · cases e
  · cases e
theorem hh.at {g : GD} {H : Heap} {h : PH} (hH : hh g H h) {a : Nat} {e : PC} (he : h.2 a = some e) : va_P g.1 vwCl [(gB g + a, te g.2.1 (gB g) e)] H := fun k q hk => by
  have hz : k < 1 := (List.getElem?_eq_some_iff.mp hk).1
  rw [show k = 0 by omega] at hk
  cases hk
  exact hH.2 a e he
/-- one cell is written -/
theorem hh.put {g : GD} {H H1 : Heap} {h : PH} (hH : hh g H h) {a : Nat} {e : PC} (he : va_at g.1 vwCl (gB g + a, te g.2.1 (gB g) e) H1) (z : H1.size = H.size) (oq : ∀ q : Nat, q ≠ gB g + a → H1[q]? = H[q]?) : hh g H1 (h.1, va_up h.2 a (some e)) := by
  refine ⟨by rw [z]; exact hH.1, fun b x hb => ?_⟩
  by_cases hab : b = a
  · subst hab
    have hb' : va_up h.2 b (some e) b = some x := hb
    simp only [va_up, if_true] at hb'
    cases hb'
    exact he
  · have hb' : va_up h.2 a (some e) b = some x := hb
    simp only [va_up, if_neg hab] at hb'
    exact (hH.2 b x hb').kept (oq _ (fun q => hab (by omega)))
