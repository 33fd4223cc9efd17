/-! ===== 07: static arrays, Math, a nest mate's static method, arraycopy ===== -/
abbrev mmin (x y : Int32) : Int32 := if y < x then y else x
abbrev mmax (x y : Int32) : Int32 := if x < y then y else x
abbrev mabs (x : Int32) : Int32 := if 0 ≤ x then x else 0 - x
abbrev lmin (x y : Int64) : Int64 := if y < x then y else x
abbrev labs (x : Int64) : Int64 := if 0 < x then x else -x
def cpI (h : PH) (a0 : Nat) (sp : Int32) (a1 : Nat) (dp n : Int32) : Option PH := match h.2 a0, h.2 a1 with
  | some (.inr (t0, n0, .inl f)), some (.inr (t1, n1, .inl q)) => if (t0 = 0 ∧ t1 = 0) ∧ (¬ sp < 0 ∧ ¬ dp < 0 ∧ ¬ n < 0) ∧ sp.toNatClampNeg + n.toNatClampNeg ≤ n0 ∧ dp.toNatClampNeg + n.toNatClampNeg ≤ n1 then some (h.1, va_up h.2 a1 (some (.inr (0, n1, .inl (va_cpy f q sp.toNatClampNeg dp.toNatClampNeg n.toNatClampNeg))))) else none
  | _, _ => none
def cpL (h : PH) (a0 : Nat) (sp : Int32) (a1 : Nat) (dp n : Int32) : Option PH := match h.2 a0, h.2 a1 with
  | some (.inr (t0, n0, .inr (.inl f))), some (.inr (t1, n1, .inr (.inl q))) => if (t0 = 1 ∧ t1 = 1) ∧ (¬ sp < 0 ∧ ¬ dp < 0 ∧ ¬ n < 0) ∧ sp.toNatClampNeg + n.toNatClampNeg ≤ n0 ∧ dp.toNatClampNeg + n.toNatClampNeg ≤ n1 then some (h.1, va_up h.2 a1 (some (.inr (1, n1, .inr (.inl (va_cpy f q sp.toNatClampNeg dp.toNatClampNeg n.toNatClampNeg)))))) else none
  | _, _ => none
theorem cpI_sp {h h' : PH} {a0 a1 : Nat} {sp dp n : Int32} (e : cpI h a0 sp a1 dp n = some h') : ∃ n0 n1 f q, h.2 a0 = some (.inr (0, n0, .inl f)) ∧ h.2 a1 = some (.inr (0, n1, .inl q)) ∧ ¬ sp < 0 ∧ ¬ dp < 0 ∧ ¬ n < 0 ∧ sp.toNatClampNeg + n.toNatClampNeg ≤ n0 ∧ dp.toNatClampNeg + n.toNatClampNeg ≤ n1 ∧ h' = (h.1, va_up h.2 a1 (some (.inr (0, n1, .inl (va_cpy f q sp.toNatClampNeg dp.toNatClampNeg n.toNatClampNeg))))) := by
  unfold cpI at e
  split at e
  · rename_i t0 n0 f t1 n1 q e0 e1
    split at e
    · rename_i hc
      cases e
      exact ⟨n0, n1, f, q, by rw [e0, hc.1.1], by rw [e1, hc.1.2], hc.2.1.1, hc.2.1.2.1, hc.2.1.2.2, hc.2.2.1, hc.2.2.2, rfl⟩
    · cases e
  · cases e
theorem cpL_sp {h h' : PH} {a0 a1 : Nat} {sp dp n : Int32} (e : cpL h a0 sp a1 dp n = some h') : ∃ n0 n1 f q, h.2 a0 = some (.inr (1, n0, .inr (.inl f))) ∧ h.2 a1 = some (.inr (1, n1, .inr (.inl q))) ∧ ¬ sp < 0 ∧ ¬ dp < 0 ∧ ¬ n < 0 ∧ sp.toNatClampNeg + n.toNatClampNeg ≤ n0 ∧ dp.toNatClampNeg + n.toNatClampNeg ≤ n1 ∧ h' = (h.1, va_up h.2 a1 (some (.inr (1, n1, .inr (.inl (va_cpy f q sp.toNatClampNeg dp.toNatClampNeg n.toNatClampNeg)))))) := by
  unfold cpL at e
  split at e
  · rename_i t0 n0 f t1 n1 q e0 e1
    split at e
    · rename_i hc
      cases e
      exact ⟨n0, n1, f, q, by rw [e0, hc.1.1], by rw [e1, hc.1.2], hc.2.1.1, hc.2.1.2.1, hc.2.1.2.2, hc.2.2.1, hc.2.2.2, rfl⟩
    · cases e
  · cases e
def AC (own : String) (index : Nat) : Prop := Cond.methodLink own index arraycopyName ∈ TB ∧ Cond.native arraycopyName ∈ TB ∧ Cond.static arraycopyName ∈ TB ∧ Cond.initialized "java/lang/System" ∈ TB
theorem tb_n {x k : Int32} {v : Int} (hk : k.toInt = v) (h : ¬ x = k) : x.toInt ≠ v := fun z => h (Int32.toInt_inj.mp (z.trans hk.symm))
section RD
variable {p : Program} {l : Launch} {e : Env} {R : Room} {s : State} {m : MethodId} {args : Array Value} {below : List Frame} {meth : Method} {c : Code} {H : Heap} {locs : List Loc} {cells slots : Nat} {Q : State → Prop}
variable {cc : ByteArray} {pc : Nat} {ls : Array Slot} {rest : List Value} {g : GD} {own : String} {nL : Nat} {Ts : List Cond} {h : PH}
theorem pg_tI {β : Type} {r : β} {k : Nat} {i : Int32} {kf : Int32 → Option β} (C : CT g own cc nL Ts p s m args meth c) (hH : HS g s H locs h) (hf : (tI k i).bind kf = some r) (hdg : decode cc pc = .ok (.iaload, 1))
    (kq : ∀ v : Int32, kf v = some r → W p l e R s m args below meth c H locs cells slots Q (F0 m (pc + 1) ls (.int v :: rest))) : W p l e R s m args below meth c H locs cells slots Q (F0 m pc ls (.int i :: .ref (gS g k) :: rest)) := by
  obtain ⟨v, e1, hf⟩ := bnd hf
  obtain ⟨q, hq, hin, hv⟩ := tI_sp e1
  obtain ⟨⟨hx, hb, -, hown, hts⟩, htb, -, hkk, -⟩ := C
  exact va_ti hx hb (hkk.2.1 k q hq).2 hH.2 hin (v := .int v) (by rw [hv]) hdg (kq v hf)
theorem pg_tN (k : Nat) {q : String × Nat × (Nat → Int32)} (hq : stab[k]? = some q) {v : Int32} (hv : Int32.ofNat q.2.1 = v) (C : CT g own cc nL Ts p s m args meth c) (hH : HS g s H locs h) (hdg : decode cc pc = .ok (.arraylength, 1))
    (kq : W p l e R s m args below meth c H locs cells slots Q (F0 m (pc + 1) ls (.int v :: rest))) : W p l e R s m args below meth c H locs cells slots Q (F0 m pc ls (.ref (gS g k) :: rest)) := by
  obtain ⟨⟨hx, hb, -, hown, hts⟩, htb, -, hkk, -⟩ := C
  exact va_tlen hx hb (hkk.2.1 k q hq).2 hH.2 hv hdg kq
theorem pg_gs (k : Nat) {index : Nat} {q : String × Nat × (Nat → Int32)} (hq : stab[k]? = some q) (hl : Cond.fieldLink own index RX9 q.1 "[I" ∈ TB) (C : CT g own cc nL Ts p s m args meth c) (hH : HS g s H locs h) (hdg : decode cc pc = .ok (.getstatic index, 3))
    (kq : W p l e R s m args below meth c H locs cells slots Q (F0 m (pc + 3) ls (.ref (gS g k) :: rest))) : W p l e R s m args below meth c H locs cells slots Q (F0 m pc ls rest) := by
  obtain ⟨⟨hx, hb, -, hown, hts⟩, htb, -, hkk, -⟩ := C
  exact va_gets hx hb (hkk.2.1 k q hq).1 hH.2 hown (hts _ (htb _ hl)) (fun _ h9 => h9) hdg kq
theorem pg_gsN (k : Nat) {index : Nat} {q : String × Nat × (Nat → Int32)} (hq : stab[k]? = some q) (hl : (own, index, q.1) ∈ nestF) (C : CT g own cc nL Ts p s m args meth c) (hH : HS g s H locs h) (hdg : decode cc pc = .ok (.getstatic index, 3))
    (kq : W p l e R s m args below meth c H locs cells slots Q (F0 m (pc + 3) ls (.ref (gS g k) :: rest))) : W p l e R s m args below meth c H locs cells slots Q (F0 m pc ls rest) := by
  obtain ⟨⟨hx, hb, -, hown, hts⟩, htb, -, hkk, -⟩ := C
  exact va_getsN hx hb (hkk.2.1 k q hq).1 hH.2 hown (va_Nw.use rfl (hkk.2.2.1.1 _ hl)) (fun _ h9 => h9) hdg kq
def JM (own : String) (index : Nat) (x : MethodName) (code : ByteArray) (maxL : Nat) (ret : Option FieldType) : Prop := Cond.methodLink own index x ∈ TB ∧ Cond.static x ∈ TB ∧ Cond.initialized "java/lang/Math" ∈ TB ∧ Cond.code x code maxL ret ∈ TB
theorem pg_mmin {x y : Int32} {index : Nat} (C : CT g own cc nL Ts p s m args meth c) (J : JM own index Lib.Math.min.name Lib.Math.min.code 2 (some .int)) (hls : ls.size = nL) (hfr : 1 ≤ R.frames) (hlo : (rest.map fun v => v.category).sum + 13 ≤ R.locals) (hcs : cells ≤ R.cells ∧ slots ≤ R.slots) (hdg : decode cc pc = .ok (.invokestatic index, 3))
    (kq : W p l e R s m args below meth c H locs cells slots Q (F0 m (pc + 3) ls (.int (mmin x y) :: rest))) : W p l e R s m args below meth c H locs cells slots Q (F0 m pc ls (.int y :: .int x :: rest)) := by
  obtain ⟨⟨hx, hb, hml, hown, hts⟩, htb, -, -, -⟩ := C
  exact va_mmin hx hb (hml.trans hls.symm) hown (hts _ (htb _ J.1)) (hts _ (htb _ J.2.1)) (hts _ (htb _ J.2.2.1)) (hts _ (htb _ J.2.2.2)) hfr hlo hcs.1 hcs.2 hdg kq
theorem pg_mmax {x y : Int32} {index : Nat} (C : CT g own cc nL Ts p s m args meth c) (J : JM own index Lib.Math.max.name Lib.Math.max.code 2 (some .int)) (hls : ls.size = nL) (hfr : 1 ≤ R.frames) (hlo : (rest.map fun v => v.category).sum + 13 ≤ R.locals) (hcs : cells ≤ R.cells ∧ slots ≤ R.slots) (hdg : decode cc pc = .ok (.invokestatic index, 3))
    (kq : W p l e R s m args below meth c H locs cells slots Q (F0 m (pc + 3) ls (.int (mmax x y) :: rest))) : W p l e R s m args below meth c H locs cells slots Q (F0 m pc ls (.int y :: .int x :: rest)) := by
  obtain ⟨⟨hx, hb, hml, hown, hts⟩, htb, -, -, -⟩ := C
  exact va_mmax hx hb (hml.trans hls.symm) hown (hts _ (htb _ J.1)) (hts _ (htb _ J.2.1)) (hts _ (htb _ J.2.2.1)) (hts _ (htb _ J.2.2.2)) hfr hlo hcs.1 hcs.2 hdg kq
theorem pg_mabs {x : Int32} {index : Nat} (C : CT g own cc nL Ts p s m args meth c) (J : JM own index Lib.Math.abs.name Lib.Math.abs.code 1 (some .int)) (hls : ls.size = nL) (hfr : 1 ≤ R.frames) (hlo : (rest.map fun v => v.category).sum + 13 ≤ R.locals) (hcs : cells ≤ R.cells ∧ slots ≤ R.slots) (hdg : decode cc pc = .ok (.invokestatic index, 3))
    (kq : W p l e R s m args below meth c H locs cells slots Q (F0 m (pc + 3) ls (.int (mabs x) :: rest))) : W p l e R s m args below meth c H locs cells slots Q (F0 m pc ls (.int x :: rest)) := by
  obtain ⟨⟨hx, hb, hml, hown, hts⟩, htb, -, -, -⟩ := C
  exact va_mabs hx hb (hml.trans hls.symm) hown (hts _ (htb _ J.1)) (hts _ (htb _ J.2.1)) (hts _ (htb _ J.2.2.1)) (hts _ (htb _ J.2.2.2)) hfr hlo hcs.1 hcs.2 hdg kq
theorem pg_lmin {x y : Int64} {index : Nat} (C : CT g own cc nL Ts p s m args meth c) (J : JM own index Lib.MathLoose.min_long.x Lib.MathLoose.min_long.code 4 (some .long)) (hls : ls.size = nL) (hfr : 1 ≤ R.frames) (hlo : (rest.map fun v => v.category).sum + 15 ≤ R.locals) (hcs : cells ≤ R.cells ∧ slots ≤ R.slots) (hdg : decode cc pc = .ok (.invokestatic index, 3))
    (kq : W p l e R s m args below meth c H locs cells slots Q (F0 m (pc + 3) ls (.long (lmin x y) :: rest))) : W p l e R s m args below meth c H locs cells slots Q (F0 m pc ls (.long y :: .long x :: rest)) := by
  obtain ⟨⟨hx, hb, hml, hown, hts⟩, htb, -, -, -⟩ := C
  exact va_mmin_long hx hb (hml.trans hls.symm) hown (hts _ (htb _ J.1)) (hts _ (htb _ J.2.1)) (hts _ (htb _ J.2.2.1)) (hts _ (htb _ J.2.2.2)) hfr hlo hcs.1 hcs.2 hdg kq
theorem pg_labs {x : Int64} {index : Nat} (C : CT g own cc nL Ts p s m args meth c) (J : JM own index Lib.MathLoose.abs_long.x Lib.MathLoose.abs_long.code 2 (some .long)) (hls : ls.size = nL) (hfr : 1 ≤ R.frames) (hlo : (rest.map fun v => v.category).sum + 13 ≤ R.locals) (hcs : cells ≤ R.cells ∧ slots ≤ R.slots) (hdg : decode cc pc = .ok (.invokestatic index, 3))
    (kq : W p l e R s m args below meth c H locs cells slots Q (F0 m (pc + 3) ls (.long (labs x) :: rest))) : W p l e R s m args below meth c H locs cells slots Q (F0 m pc ls (.long x :: rest)) := by
  obtain ⟨⟨hx, hb, hml, hown, hts⟩, htb, -, -, -⟩ := C
  exact va_mabs_long hx hb (hml.trans hls.symm) hown (hts _ (htb _ J.1)) (hts _ (htb _ J.2.1)) (hts _ (htb _ J.2.2.1)) (hts _ (htb _ J.2.2.2)) hfr hlo hcs.1 hcs.2 hdg kq
/-- a static method that is private to a nest mate -/
theorem pg_Nl {β : Type} {rr : β} {o : Option (Int64 × PH)} {kf : Int64 → PH → Option β} {y : MethodName} {bytes : ByteArray} {maxL n index d : Nat} {ret : Option FieldType} {As : List Value} {st : List Value} (C : CT g own cc nL Ts p s m args meth c) (hH : HS g s H locs h) (I : MI y bytes maxL n ret) (L : (own, index, y) ∈ nestM) (hs : Cond.static y ∈ TB) (hf : b2 o kf = some rr)
    (hM : ∀ r1 h1, o = some (r1, h1) → Met l y (Cond.code y bytes maxL ret :: TB) (rmD d 0 0) (PcH g As h) (QcL g r1 h1) 0 0 (aB g))
    (hst : st = As.reverse ++ rest) (hn : As.length = n) (hls : ls.size = nL) (hcat : (rest.map fun v => v.category).sum ≤ 8) (hR : d + 1 ≤ R.frames ∧ 8 + (maxL + 11) + 41 * d ≤ R.locals) (hcs : cells ≤ R.cells ∧ slots ≤ R.slots) (hdg : decode cc pc = .ok (.invokestatic index, 3))
    (kq : ∀ (H : Heap) (locs : List Loc) (r1 : Int64) (h1 : PH), HS g s H locs h1 → kf r1 h1 = some rr → W p l e R s m args below meth c H locs cells slots Q (F0 m (pc + 3) ls (.long r1 :: rest))) : W p l e R s m args below meth c H locs cells slots Q (F0 m pc ls st) := by
  obtain ⟨r1, h1, e1, hf⟩ := b2_sp hf
  subst hst
  refine va_calll (va_runSN (As := As) (rest := rest) C.fix (hM r1 h1 e1) ⟨va_cnB n C.1.2.2.2.2 (goodN C I) rfl rfl rfl (C.2.2.2.1.2.2.1.2 _ L) (C.1.2.2.2.2 _ (C.2.1 _ I.2.1)) ⟨I.2.2.1.1, I.2.2.1.2, I.2.2.2⟩ hR, C.1.2.2.2.2 _ (C.2.1 _ hs), trivial⟩ ⟨PcH_blind, fun U hU hW => pre_of C hH hU hW⟩ rfl hn hls rfl (lv_room hcat) hdg hcs) hH.2 (fun _ _ h => h) (fun _ h => h) (fun r2 u t H1 locs1 ht hvm hw hB hz1 hk1 hS => ?_)
  obtain ⟨rfl, rfl⟩ := hw
  exact kq H1 locs1 _ _ (HS.after ht hB.1 hS) hf
end RD
section RE
variable {p : Program} {l : Launch} {e : Env} {R : Room} {s : State} {m : MethodId} {args : Array Value} {below : List Frame} {meth : Method} {c : Code} {H : Heap} {locs : List Loc} {cells slots : Nat} {Q : State → Prop}
variable {cc : ByteArray} {pc : Nat} {ls : Array Slot} {rest : List Value} {gg : GD} {own : String} {nL : Nat} {Ts : List Cond} {h : PH}
theorem pg_cpI {β : Type} {rr : β} {index a0 a1 : Nat} {sp dp n : Int32} {kf : PH → Option β} (C : CT gg own cc nL Ts p s m args meth c) (hH : HS gg s H locs h) (A : AC own index) (hls : ls.size = nL) (hf : (cpI h a0 sp a1 dp n).bind kf = some rr) (hframes : 1 ≤ R.frames) (hlocals : (rest.map fun v => v.category).sum + (nativeFrameWords "java/lang/System" "arraycopy" 5 + 11) ≤ R.locals) (hdg : decode cc pc = .ok (.invokestatic index, 3))
    (kq : ∀ (H : Heap) (locs : List Loc) (h : PH), HS gg s H locs h → kf h = some rr → W p l e R s m args below meth c H locs cells slots Q (F0 m (pc + 3) ls rest)) : W p l e R s m args below meth c H locs cells slots Q (F0 m pc ls (.int n :: .int dp :: .ref (gB gg + a1) :: .int sp :: .ref (gB gg + a0) :: rest)) := by
  obtain ⟨h', e1, hf⟩ := bnd hf
  obtain ⟨n0, n1, f, g, ha0, ha1, h1, h2, h3, h4, h5, e4⟩ := cpI_sp e1
  obtain ⟨⟨hx, hb, hml, hown, hts⟩, htb, -, hkk, -⟩ := C
  have nn : ∀ z : Int32, ¬ z < 0 → z.toInt = (z.toNatClampNeg : Int) := by
    intro z hz
    have hz0 : (0 : Int) ≤ z.toInt := by
      have := Int32.not_lt.mp hz
      simpa using Int32.le_iff_toInt_le.mp this
    show z.toInt = ((z.toInt.toNat : Nat) : Int)
    omega
  intro T hT X
  have hc0 : H[gB gg + a0]? = some (vp_cell (gg.2.1 0) (n0, .inl f)) := hH.1.2 a0 _ ha0
  have hc1 : H[gB gg + a1]? = some (vp_cell (gg.2.1 0) (n1, .inl g)) := hH.1.2 a1 _ ha1
  obtain ⟨-, k0, hk0, cm0, hkk0⟩ := (hkk.1.2 0 _ rfl).1 n0 (fun j => .int (f j))
  obtain ⟨-, k1, hk1, cm1, hkk1⟩ := (hkk.1.2 0 _ rfl).1 n1 (fun j => .int (g j))
  obtain ⟨vm', X', step⟩ := X.arraycopy hx hown (hts _ (htb _ A.1)) (hts _ (htb _ A.2.1)) (hts _ (htb _ A.2.2.1)) (hts _ (htb _ A.2.2.2)) (src := gB gg + a0) (dst := gB gg + a1) (cs := vp_cell (gg.2.1 0) (n0, .inl f)) (cd := vp_cell (gg.2.1 0) (n1, .inl g)) (srcPos := sp) (destPos := dp) (n := n) (by rw [hT]; exact hc0) (by rw [hT]; exact hc1)
    (fun _ h => by cases h) (fun _ h => by cases h) (fun h => by cases h) (fun h => by cases h) hk0 hk1 hkk0 hkk1 (by simp [refKind]) h1 h2 h3
    (by rw [nn sp h1, nn n h3]; show ¬ _ > ((arrV (gg.2.1 0) n0 (fun j => .int (f j))).slots.size : Int); rw [arrV_size]; omega)
    (by rw [nn dp h2, nn n h3]; show ¬ _ > ((arrV (gg.2.1 0) n1 (fun j => .int (g j))).slots.size : Int); rw [arrV_size]; omega)
    (fun vm₁ _ i hi => by
      have e : (vp_cell (gg.2.1 0) (n0, .inl f)).slots.getD (sp.toNatClampNeg + i) .null = .int (f (sp.toNatClampNeg + i)) := by
        show (arrV (gg.2.1 0) n0 (fun j => .int (f j))).slots.getD _ _ = _
        rw [Array.getD_eq_getD_getElem?, arrV_read _ _ (by omega)]
        rfl
      refine ⟨?_, ?_⟩
      · rw [e]
        exact rfl
      · rw [e]
        exact trivial)
    (g := F0 m pc ls (.int n :: .int dp :: .ref (gB gg + a1) :: .int sp :: .ref (gB gg + a0) :: rest)) rfl (by rw [hml]; exact hls) (rest := rest) rfl (by rw [hb]; exact hdg) hframes (by show 2 * 0 + _ + _ ≤ _; omega)
  have e1 : copied (vp_cell (gg.2.1 0) (n0, .inl f)) (vp_cell (gg.2.1 0) (n1, .inl g)) sp dp n = vp_cell (gg.2.1 0) (n1, .inl (va_cpy f g sp.toNatClampNeg dp.toNatClampNeg n.toNatClampNeg)) := va_copied (fun z => .int z) (gg.2.1 0) (gg.2.1 0) f g h4
  rw [e1] at X' step
  have hl : gB gg + a1 < H.size := (Array.getElem?_eq_some_iff.mp hc1).1
  have hheap : ((T.setVm vm').setCell (gB gg + a1) (vp_cell (gg.2.1 0) (n1, .inl (va_cpy f g sp.toNatClampNeg dp.toNatClampNeg n.toNatClampNeg)))).heap = H.setIfInBounds (gB gg + a1) (vp_cell (gg.2.1 0) (n1, .inl (va_cpy f g sp.toNatClampNeg dp.toNatClampNeg n.toNatClampNeg))) := by rw [← hT]; rfl
  have oq : ∀ q : Nat, q ≠ gB gg + a1 → (H.setIfInBounds (gB gg + a1) (vp_cell (gg.2.1 0) (n1, .inl (va_cpy f g sp.toNatClampNeg dp.toNatClampNeg n.toNatClampNeg))))[q]? = H[q]? := fun q hq => by simp [Array.getElem?_setIfInBounds, Ne.symm hq]
  obtain ⟨t, a1, b1⟩ := kq _ _ h' ⟨by
      rw [e4]
      exact hH.1.put (show (H.setIfInBounds (gB gg + a1) _)[gB gg + a1]? = some _ by simp [Array.getElem?_setIfInBounds, hl]) (by simp) oq, ⟨by simp; exact hH.2.1, fun q g1 g2 => by
      rw [oq q (fun e => g2 (by show gB gg ≤ q; omega))]
      exact hH.2.2.1 q g1 g2, fun q hq => by
      rcases List.mem_append.mp hq with h | h
      · exact hH.2.2.2 q h
      · obtain ⟨z, -, hz⟩ := List.mem_map.mp h
        rw [← hz]
        exact Nat.le_add_right _ _⟩⟩ hf _ hheap X'
  exact ⟨t, step t a1, b1⟩
theorem pg_cpL {β : Type} {rr : β} {index a0 a1 : Nat} {sp dp n : Int32} {kf : PH → Option β} (C : CT gg own cc nL Ts p s m args meth c) (hH : HS gg s H locs h) (A : AC own index) (hls : ls.size = nL) (hf : (cpL h a0 sp a1 dp n).bind kf = some rr) (hframes : 1 ≤ R.frames) (hlocals : (rest.map fun v => v.category).sum + (nativeFrameWords "java/lang/System" "arraycopy" 5 + 11) ≤ R.locals) (hdg : decode cc pc = .ok (.invokestatic index, 3))
    (kq : ∀ (H : Heap) (locs : List Loc) (h : PH), HS gg s H locs h → kf h = some rr → W p l e R s m args below meth c H locs cells slots Q (F0 m (pc + 3) ls rest)) : W p l e R s m args below meth c H locs cells slots Q (F0 m pc ls (.int n :: .int dp :: .ref (gB gg + a1) :: .int sp :: .ref (gB gg + a0) :: rest)) := by
  obtain ⟨h', e1, hf⟩ := bnd hf
  obtain ⟨n0, n1, f, g, ha0, ha1, h1, h2, h3, h4, h5, e4⟩ := cpL_sp e1
  obtain ⟨⟨hx, hb, hml, hown, hts⟩, htb, -, hkk, -⟩ := C
  have nn : ∀ z : Int32, ¬ z < 0 → z.toInt = (z.toNatClampNeg : Int) := by
    intro z hz
    have hz0 : (0 : Int) ≤ z.toInt := by
      have := Int32.not_lt.mp hz
      simpa using Int32.le_iff_toInt_le.mp this
    show z.toInt = ((z.toInt.toNat : Nat) : Int)
    omega
  intro T hT X
  have hc0 : H[gB gg + a0]? = some (vp_cell (gg.2.1 1) (n0, .inr (.inl f))) := hH.1.2 a0 _ ha0
  have hc1 : H[gB gg + a1]? = some (vp_cell (gg.2.1 1) (n1, .inr (.inl g))) := hH.1.2 a1 _ ha1
  obtain ⟨-, k0, hk0, cm0, hkk0⟩ := (hkk.1.2 1 _ rfl).1 n0 (fun j => .long (f j))
  obtain ⟨-, k1, hk1, cm1, hkk1⟩ := (hkk.1.2 1 _ rfl).1 n1 (fun j => .long (g j))
  obtain ⟨vm', X', step⟩ := X.arraycopy hx hown (hts _ (htb _ A.1)) (hts _ (htb _ A.2.1)) (hts _ (htb _ A.2.2.1)) (hts _ (htb _ A.2.2.2)) (src := gB gg + a0) (dst := gB gg + a1) (cs := vp_cell (gg.2.1 1) (n0, .inr (.inl f))) (cd := vp_cell (gg.2.1 1) (n1, .inr (.inl g))) (srcPos := sp) (destPos := dp) (n := n) (by rw [hT]; exact hc0) (by rw [hT]; exact hc1)
    (fun _ h => by cases h) (fun _ h => by cases h) (fun h => by cases h) (fun h => by cases h) hk0 hk1 hkk0 hkk1 (by simp [refKind]) h1 h2 h3
    (by rw [nn sp h1, nn n h3]; show ¬ _ > ((arrV (gg.2.1 1) n0 (fun j => .long (f j))).slots.size : Int); rw [arrV_size]; omega)
    (by rw [nn dp h2, nn n h3]; show ¬ _ > ((arrV (gg.2.1 1) n1 (fun j => .long (g j))).slots.size : Int); rw [arrV_size]; omega)
    (fun vm₁ _ i hi => by
      have e : (vp_cell (gg.2.1 1) (n0, .inr (.inl f))).slots.getD (sp.toNatClampNeg + i) .null = .long (f (sp.toNatClampNeg + i)) := by
        show (arrV (gg.2.1 1) n0 (fun j => .long (f j))).slots.getD _ _ = _
        rw [Array.getD_eq_getD_getElem?, arrV_read _ _ (by omega)]
        rfl
      refine ⟨?_, ?_⟩
      · rw [e]
        exact rfl
      · rw [e]
        exact trivial)
    (g := F0 m pc ls (.int n :: .int dp :: .ref (gB gg + a1) :: .int sp :: .ref (gB gg + a0) :: rest)) rfl (by rw [hml]; exact hls) (rest := rest) rfl (by rw [hb]; exact hdg) hframes (by show 2 * 0 + _ + _ ≤ _; omega)
  have e1 : copied (vp_cell (gg.2.1 1) (n0, .inr (.inl f))) (vp_cell (gg.2.1 1) (n1, .inr (.inl g))) sp dp n = vp_cell (gg.2.1 1) (n1, .inr (.inl (va_cpy f g sp.toNatClampNeg dp.toNatClampNeg n.toNatClampNeg))) := va_copied (fun z => .long z) (gg.2.1 1) (gg.2.1 1) f g h4
  rw [e1] at X' step
  have hl : gB gg + a1 < H.size := (Array.getElem?_eq_some_iff.mp hc1).1
  have hheap : ((T.setVm vm').setCell (gB gg + a1) (vp_cell (gg.2.1 1) (n1, .inr (.inl (va_cpy f g sp.toNatClampNeg dp.toNatClampNeg n.toNatClampNeg))))).heap = H.setIfInBounds (gB gg + a1) (vp_cell (gg.2.1 1) (n1, .inr (.inl (va_cpy f g sp.toNatClampNeg dp.toNatClampNeg n.toNatClampNeg)))) := by rw [← hT]; rfl
  have oq : ∀ q : Nat, q ≠ gB gg + a1 → (H.setIfInBounds (gB gg + a1) (vp_cell (gg.2.1 1) (n1, .inr (.inl (va_cpy f g sp.toNatClampNeg dp.toNatClampNeg n.toNatClampNeg)))))[q]? = H[q]? := fun q hq => by simp [Array.getElem?_setIfInBounds, Ne.symm hq]
  obtain ⟨t, a1, b1⟩ := kq _ _ h' ⟨by
      rw [e4]
      exact hH.1.put (show (H.setIfInBounds (gB gg + a1) _)[gB gg + a1]? = some _ by simp [Array.getElem?_setIfInBounds, hl]) (by simp) oq, ⟨by simp; exact hH.2.1, fun q g1 g2 => by
      rw [oq q (fun e => g2 (by show gB gg ≤ q; omega))]
      exact hH.2.2.1 q g1 g2, fun q hq => by
      rcases List.mem_append.mp hq with h | h
      · exact hH.2.2.2 q h
      · obtain ⟨z, -, hz⟩ := List.mem_map.mp h
        rw [← hz]
        exact Nat.le_add_right _ _⟩⟩ hf _ hheap X'
  exact ⟨t, step t a1, b1⟩
end RE
