/-! ===== 06: ends, calls, entries ===== -/
def oO {α : Type} (h : PH) (a ci : Nat) (x : Option α) : Option α := if isO h a ci = true then x else none
theorem oO_sp {α : Type} {h : PH} {a ci : Nat} {x : Option α} {r : α} (e : oO h a ci x = some r) : isO h a ci = true ∧ x = some r := by
  unfold oO at e
  split at e
  · rename_i hc
    exact ⟨hc, e⟩
  · cases e
def b2 {α β : Type} (o : Option (α × PH)) (f : α → PH → Option β) : Option β := match o with
  | none => none
  | some x => f x.1 x.2
theorem b2_sp {α β : Type} {o : Option (α × PH)} {f : α → PH → Option β} {r : β} (e : b2 o f = some r) : ∃ x h, o = some (x, h) ∧ f x h = some r := by
  match o, e with
  | some (x, h), e => exact ⟨x, h, rfl, e⟩
theorem dz_sp {α : Type} {c : Prop} {_ : Decidable c} {x : Option α} {r : α} (e : dz c x = some r) : ¬ c ∧ x = some r := by
  unfold dz at e
  split at e
  · cases e
  · rename_i hc
    exact ⟨hc, e⟩
def MI (y : MethodName) (bytes : ByteArray) (maxL n : Nat) (ret : Option FieldType) : Prop := Cond.code y bytes maxL ret ∈ TB ∧ Cond.initialized y.cls ∈ TB ∧ (y.cls ≠ "java/lang/invoke/MethodHandle" ∧ y.cls ≠ "java/lang/invoke/VarHandle") ∧ (parseMethodDescriptor y.desc).map (fun d => d.parameters.length) = some n
def VL (own : String) (index : Nat) (y : MethodName) : Prop := Cond.methodLink own index y ∈ TB ∧ Cond.instanceMethod y ∈ TB ∧ Cond.selects y.cls y y ∈ TB
def SL (own : String) (index : Nat) (y : MethodName) : Prop := Cond.methodLink own index y ∈ TB ∧ Cond.static y ∈ TB
section RC
variable {p : Program} {l : Launch} {e : Env} {R : Room} {s : State} {m : MethodId} {args : Array Value} {below : List Frame} {meth : Method} {c : Code} {H : Heap} {locs : List Loc} {cells slots : Nat} {Q : State → Prop}
variable {cc : ByteArray} {pc : Nat} {ls : Array Slot} {rest : List Value} {g : GD} {own : String} {nL : Nat} {Ts : List Cond} {h : PH}
theorem kk_end {t : State} (hkk : kk g s) (hS : va_S (fun q => gB g ≤ q) s.heap H locs) (ht : t.heap = H) (hW : s.WarmedH t.vm) : kk g t :=
  kk.moved hW (fun a h1 h2 => by rw [ht]; exact hS.2.1 a h1 h2) hkk
theorem pg_iret {x r : Int32} {h' : PH} (C : CT g own cc nL Ts p s m args meth c) (hr : meth.sig.returnType = some .int) (hH : HS g s H locs h) (hf : some (x, h) = some (r, h')) (hdg : decode cc pc = .ok (.ireturn, 1)) : W p l e R s m args below meth c H locs cells slots (MQ below (QcI g r h') args s cells slots (aB g)) (F0 m pc ls [.int x]) := by
  obtain ⟨⟨hx, hb, -, -, -⟩, -, hlk, hkk, -⟩ := C
  cases hf
  exact W.iret (v := x) hx hb hr (fun t ht hW => ⟨⟨x, h, rfl, ⟨rfl, rfl⟩, by rw [ht]; exact hH.1, kk_end hkk hH.2 ht hW⟩, hH.2.F ht⟩) hH.2.2.2 hdg hlk
theorem pg_lret {x r : Int64} {h' : PH} (C : CT g own cc nL Ts p s m args meth c) (hr : meth.sig.returnType = some .long) (hH : HS g s H locs h) (hf : some (x, h) = some (r, h')) (hdg : decode cc pc = .ok (.lreturn, 1)) : W p l e R s m args below meth c H locs cells slots (MQ below (QcL g r h') args s cells slots (aB g)) (F0 m pc ls [.long x]) := by
  obtain ⟨⟨hx, hb, -, -, -⟩, -, hlk, hkk, -⟩ := C
  cases hf
  exact W.lret (v := x) hx hb hr (fun t ht hW => ⟨⟨x, h, rfl, ⟨rfl, rfl⟩, by rw [ht]; exact hH.1, kk_end hkk hH.2 ht hW⟩, hH.2.F ht⟩) hH.2.2.2 hdg hlk
theorem pg_vret {h' : PH} (C : CT g own cc nL Ts p s m args meth c) (hr : meth.sig.returnType = none) (hH : HS g s H locs h) (hf : some h = some h') (hdg : decode cc pc = .ok (.return_, 1)) : W p l e R s m args below meth c H locs cells slots (MQ below (QcV g h') args s cells slots (aB g)) (F0 m pc ls []) := by
  obtain ⟨⟨hx, hb, -, -, -⟩, -, hlk, hkk, -⟩ := C
  cases hf
  exact W.vret hx hb hr (fun t ht hW => ⟨⟨h, rfl, rfl, by rw [ht]; exact hH.1, kk_end hkk hH.2 ht hW⟩, hH.2.F ht⟩) hH.2.2.2 hdg hlk
theorem pg_zret {x r : Int32} {h' : PH} (C : CT g own cc nL Ts p s m args meth c) (hr : meth.sig.returnType = some .boolean) (hH : HS g s H locs h) (hf : rz x h = some (r, h')) (hdg : decode cc pc = .ok (.ireturn, 1)) : W p l e R s m args below meth c H locs cells slots (MQ below (QcI g r h') args s cells slots (aB g)) (F0 m pc ls [.int x]) := by
  obtain ⟨⟨hx, hb, -, -, -⟩, -, hlk, hkk, -⟩ := C
  unfold rz at hf
  split at hf
  · rename_i hx01
    cases hf
    refine W.zret (v := x) (ty := .boolean) hx hb hr ?_ (fun t ht hW => ⟨⟨x, h, rfl, ⟨rfl, rfl⟩, by rw [ht]; exact hH.1, kk_end hkk hH.2 ht hW⟩, hH.2.F ht⟩) hH.2.2.2 hdg hlk
    rcases hx01 with rfl | rfl <;> rfl
  · cases hf
theorem pre_of {U : State} (C : CT g own cc nL Ts p s m args meth c) (hH : HS g s H locs h) (hU : U.heap = H) (hW : s.WarmedH U.vm) {av : List Value} : PcH g av h av.toArray U := by
  obtain ⟨-, -, -, hkk, -⟩ := C
  exact ⟨rfl, by rw [hU]; exact hH.1, kk_end hkk hH.2 hU hW⟩
theorem CT.fix (C : CT g own cc nL Ts p s m args meth c) : CallFix p m c cc nL s args Ts own := C.1
theorem goodV {y : MethodName} {bytes : ByteArray} {maxL n index : Nat} {ret : Option FieldType} (C : CT g own cc nL Ts p s m args meth c) (I : MI y bytes maxL n ret) (L : VL own index y) : GoodIn Ts (wsV own index y.cls y (Cond.code y bytes maxL ret :: TB)) := by
  refine TB_goodIn C.2.1 (fun w hw => ?_)
  simp only [wsV, List.mem_append, List.mem_cons, List.not_mem_nil, or_false] at hw
  rcases hw with (h1 | h1 | h1 | h1) | h1 | h1
  · rw [h1]; exact L.1
  · rw [h1]; exact L.2.1
  · rw [h1]; exact L.2.2
  · rw [h1]; exact I.2.1
  · rw [h1]; exact I.1
  · exact h1
theorem pg_recv {a ci : Nat} {q : vw_C} (C : CT g own cc nL Ts p s m args meth c) (hH : HS g s H locs h) (hO : isO h a ci = true) (hc : vwCl[ci]? = some q) : ∃ cell : Cell, H[gB g + a]? = some cell ∧ cell.vm.isStatics = false ∧ s.vm.findClass q.1 = some cell.cls := by
  obtain ⟨fs, hfs⟩ := isO_sp hO
  obtain ⟨-, -, -, hkk, -⟩ := C
  exact va_recv (q0 := 0) hkk.1 (hH.1.at hfs) hc rfl
/-- behind a call -/
theorem HS.after {H1 : Heap} {locs1 : List Loc} {t : State} {h1 : PH} (ht : t.heap = H1) (hB : hh g t.heap h1) (hS : va_S (fun q => gB g ≤ q) s.heap H1 locs1) : HS g s H1 locs1 h1 := ⟨by rw [← ht]; exact hB, hS⟩
theorem pg_Vi {β : Type} {rr : β} {o : Option (Int32 × PH)} {kf : Int32 → PH → Option β} {y : MethodName} {bytes : ByteArray} {maxL n index d a ci : Nat} {ret : Option FieldType} {q : vw_C} {As : List Value} {st : List Value} (C : CT g own cc nL Ts p s m args meth c) (hH : HS g s H locs h) (I : MI y bytes maxL n ret) (L : VL own index y) (hc : vwCl[ci]? = some q) (hq : q.1 = y.cls) (hf : b2 o kf = some rr)
    (hO : ∀ x, o = some x → isO h a ci = true) (hM : ∀ r1 h1, o = some (r1, h1) → Met l y (Cond.code y bytes maxL ret :: TB) (rmD d 0 0) (PcH g (.ref (gB g + a) :: As) h) (QcI g r1 h1) 0 0 (aB g))
    (hst : st = As.reverse ++ .ref (gB g + a) :: rest) (hn : As.length = n) (hls : ls.size = nL) (hcat : (rest.map fun v => v.category).sum ≤ 8) (hR : d + 1 ≤ R.frames ∧ 8 + (maxL + 11) + 41 * d ≤ R.locals) (hcs : cells ≤ R.cells ∧ slots ≤ R.slots) (hdg : decode cc pc = .ok (.invokevirtual index, 3))
    (kq : ∀ (H : Heap) (locs : List Loc) (r1 : Int32) (h1 : PH), HS g s H locs h1 → kf r1 h1 = some rr → W p l e R s m args below meth c H locs cells slots Q (F0 m (pc + 3) ls (.int r1 :: rest))) : W p l e R s m args below meth c H locs cells slots Q (F0 m pc ls st) := by
  obtain ⟨r1, h1, e1, hf⟩ := b2_sp hf
  subst hst
  refine va_calli (va_runV (As := As) (rest := rest) C.fix (hM r1 h1 e1) (cwV n C.1.2.2.2.2 (goodV C I L) rfl rfl rfl ⟨rfl, I.2.2.1.1, I.2.2.1.2, I.2.2.2⟩ hR) ⟨PcH_blind, ?_, fun U hU hW => pre_of C hH hU hW⟩ rfl hn hls rfl (lv_room hcat) hdg hcs) hH.2 (fun _ _ h => h) (fun _ h => h) (fun r2 u t H1 locs1 ht hvm hw hB hz1 hk1 hS => ?_)
  · rw [← hq]
    exact pg_recv C hH (hO _ e1) hc
  · obtain ⟨rfl, rfl⟩ := hw
    exact kq H1 locs1 _ _ (HS.after ht hB.1 hS) hf
theorem pg_Vl {β : Type} {rr : β} {o : Option (Int64 × PH)} {kf : Int64 → PH → Option β} {y : MethodName} {bytes : ByteArray} {maxL n index d a ci : Nat} {ret : Option FieldType} {q : vw_C} {As : List Value} {st : List Value} (C : CT g own cc nL Ts p s m args meth c) (hH : HS g s H locs h) (I : MI y bytes maxL n ret) (L : VL own index y) (hc : vwCl[ci]? = some q) (hq : q.1 = y.cls) (hf : b2 o kf = some rr)
    (hO : ∀ x, o = some x → isO h a ci = true) (hM : ∀ r1 h1, o = some (r1, h1) → Met l y (Cond.code y bytes maxL ret :: TB) (rmD d 0 0) (PcH g (.ref (gB g + a) :: As) h) (QcL g r1 h1) 0 0 (aB g))
    (hst : st = As.reverse ++ .ref (gB g + a) :: rest) (hn : As.length = n) (hls : ls.size = nL) (hcat : (rest.map fun v => v.category).sum ≤ 8) (hR : d + 1 ≤ R.frames ∧ 8 + (maxL + 11) + 41 * d ≤ R.locals) (hcs : cells ≤ R.cells ∧ slots ≤ R.slots) (hdg : decode cc pc = .ok (.invokevirtual index, 3))
    (kq : ∀ (H : Heap) (locs : List Loc) (r1 : Int64) (h1 : PH), HS g s H locs h1 → kf r1 h1 = some rr → W p l e R s m args below meth c H locs cells slots Q (F0 m (pc + 3) ls (.long r1 :: rest))) : W p l e R s m args below meth c H locs cells slots Q (F0 m pc ls st) := by
  obtain ⟨r1, h1, e1, hf⟩ := b2_sp hf
  subst hst
  refine va_calll (va_runV (As := As) (rest := rest) C.fix (hM r1 h1 e1) (cwV n C.1.2.2.2.2 (goodV C I L) rfl rfl rfl ⟨rfl, I.2.2.1.1, I.2.2.1.2, I.2.2.2⟩ hR) ⟨PcH_blind, ?_, fun U hU hW => pre_of C hH hU hW⟩ rfl hn hls rfl (lv_room hcat) hdg hcs) hH.2 (fun _ _ h => h) (fun _ h => h) (fun r2 u t H1 locs1 ht hvm hw hB hz1 hk1 hS => ?_)
  · rw [← hq]
    exact pg_recv C hH (hO _ e1) hc
  · obtain ⟨rfl, rfl⟩ := hw
    exact kq H1 locs1 _ _ (HS.after ht hB.1 hS) hf
theorem pg_Vv {β : Type} {rr : β} {o : Option PH} {kf : PH → Option β} {y : MethodName} {bytes : ByteArray} {maxL n index d a ci : Nat} {ret : Option FieldType} {q : vw_C} {As : List Value} {st : List Value} (C : CT g own cc nL Ts p s m args meth c) (hH : HS g s H locs h) (I : MI y bytes maxL n ret) (L : VL own index y) (hc : vwCl[ci]? = some q) (hq : q.1 = y.cls) (hf : o.bind kf = some rr)
    (hO : ∀ x, o = some x → isO h a ci = true) (hM : ∀ h1, o = some h1 → Met l y (Cond.code y bytes maxL ret :: TB) (rmD d 0 0) (PcH g (.ref (gB g + a) :: As) h) (QcV g h1) 0 0 (aB g))
    (hst : st = As.reverse ++ .ref (gB g + a) :: rest) (hn : As.length = n) (hls : ls.size = nL) (hcat : (rest.map fun v => v.category).sum ≤ 8) (hR : d + 1 ≤ R.frames ∧ 8 + (maxL + 11) + 41 * d ≤ R.locals) (hcs : cells ≤ R.cells ∧ slots ≤ R.slots) (hdg : decode cc pc = .ok (.invokevirtual index, 3))
    (kq : ∀ (H : Heap) (locs : List Loc) (h1 : PH), HS g s H locs h1 → kf h1 = some rr → W p l e R s m args below meth c H locs cells slots Q (F0 m (pc + 3) ls rest)) : W p l e R s m args below meth c H locs cells slots Q (F0 m pc ls st) := by
  obtain ⟨h1, e1, hf⟩ := bnd hf
  subst hst
  refine va_callv (va_runV (As := As) (rest := rest) C.fix (hM h1 e1) (cwV n C.1.2.2.2.2 (goodV C I L) rfl rfl rfl ⟨rfl, I.2.2.1.1, I.2.2.1.2, I.2.2.2⟩ hR) ⟨PcH_blind, ?_, fun U hU hW => pre_of C hH hU hW⟩ rfl hn hls rfl (lv_room hcat) hdg hcs) hH.2 (fun _ _ h => h) (fun _ h => h) (fun u t H1 locs1 ht hvm hw hB hz1 hk1 hS => ?_)
  · rw [← hq]
    exact pg_recv C hH (hO _ e1) hc
  · subst hw
    exact kq H1 locs1 _ (HS.after ht hB.1 hS) hf
theorem goodS {y : MethodName} {bytes : ByteArray} {maxL n index : Nat} {ret : Option FieldType} (C : CT g own cc nL Ts p s m args meth c) (I : MI y bytes maxL n ret) (L : SL own index y) : GoodIn Ts (va_wsS own index y (Cond.code y bytes maxL ret :: TB)) := by
  refine TB_goodIn C.2.1 (fun w hw => ?_)
  simp only [va_wsS, List.mem_append, List.mem_cons, List.not_mem_nil, or_false] at hw
  rcases hw with (h1 | h1 | h1) | h1 | h1
  · rw [h1]; exact L.1
  · rw [h1]; exact L.2
  · rw [h1]; exact I.2.1
  · rw [h1]; exact I.1
  · exact h1
theorem goodN {y : MethodName} {bytes : ByteArray} {maxL n : Nat} {ret : Option FieldType} (C : CT g own cc nL Ts p s m args meth c) (I : MI y bytes maxL n ret) : GoodIn Ts (Cond.code y bytes maxL ret :: TB) := by
  refine TB_goodIn C.2.1 (fun w hw => ?_)
  rcases List.mem_cons.mp hw with h1 | h1
  · rw [h1]; exact I.1
  · exact h1
theorem pg_Si {β : Type} {rr : β} {o : Option (Int32 × PH)} {kf : Int32 → PH → Option β} {y : MethodName} {bytes : ByteArray} {maxL n index d : Nat} {ret : Option FieldType} {As : List Value} {st : List Value} (C : CT g own cc nL Ts p s m args meth c) (hH : HS g s H locs h) (I : MI y bytes maxL n ret) (L : SL own index y) (hf : b2 o kf = some rr)
    (hM : ∀ r1 h1, o = some (r1, h1) → Met l y (Cond.code y bytes maxL ret :: TB) (rmD d 0 0) (PcH g As h) (QcI g r1 h1) 0 0 (aB g))
    (hst : st = As.reverse ++ rest) (hn : As.length = n) (hls : ls.size = nL) (hcat : (rest.map fun v => v.category).sum ≤ 8) (hR : d + 1 ≤ R.frames ∧ 8 + (maxL + 11) + 41 * d ≤ R.locals) (hcs : cells ≤ R.cells ∧ slots ≤ R.slots) (hdg : decode cc pc = .ok (.invokestatic index, 3))
    (kq : ∀ (H : Heap) (locs : List Loc) (r1 : Int32) (h1 : PH), HS g s H locs h1 → kf r1 h1 = some rr → W p l e R s m args below meth c H locs cells slots Q (F0 m (pc + 3) ls (.int r1 :: rest))) : W p l e R s m args below meth c H locs cells slots Q (F0 m pc ls st) := by
  obtain ⟨r1, h1, e1, hf⟩ := b2_sp hf
  subst hst
  refine va_calli (va_runS (As := As) (rest := rest) C.fix (hM r1 h1 e1) (va_cwS n C.1.2.2.2.2 (goodS C I L) rfl rfl rfl ⟨I.2.2.1.1, I.2.2.1.2, I.2.2.2⟩ hR) ⟨PcH_blind, fun U hU hW => pre_of C hH hU hW⟩ rfl hn hls rfl (lv_room hcat) hdg hcs) hH.2 (fun _ _ h => h) (fun _ h => h) (fun r2 u t H1 locs1 ht hvm hw hB hz1 hk1 hS => ?_)
  obtain ⟨rfl, rfl⟩ := hw
  exact kq H1 locs1 _ _ (HS.after ht hB.1 hS) hf
theorem pg_Sl {β : Type} {rr : β} {o : Option (Int64 × PH)} {kf : Int64 → PH → Option β} {y : MethodName} {bytes : ByteArray} {maxL n index d : Nat} {ret : Option FieldType} {As : List Value} {st : List Value} (C : CT g own cc nL Ts p s m args meth c) (hH : HS g s H locs h) (I : MI y bytes maxL n ret) (L : SL own index y) (hf : b2 o kf = some rr)
    (hM : ∀ r1 h1, o = some (r1, h1) → Met l y (Cond.code y bytes maxL ret :: TB) (rmD d 0 0) (PcH g As h) (QcL g r1 h1) 0 0 (aB g))
    (hst : st = As.reverse ++ rest) (hn : As.length = n) (hls : ls.size = nL) (hcat : (rest.map fun v => v.category).sum ≤ 8) (hR : d + 1 ≤ R.frames ∧ 8 + (maxL + 11) + 41 * d ≤ R.locals) (hcs : cells ≤ R.cells ∧ slots ≤ R.slots) (hdg : decode cc pc = .ok (.invokestatic index, 3))
    (kq : ∀ (H : Heap) (locs : List Loc) (r1 : Int64) (h1 : PH), HS g s H locs h1 → kf r1 h1 = some rr → W p l e R s m args below meth c H locs cells slots Q (F0 m (pc + 3) ls (.long r1 :: rest))) : W p l e R s m args below meth c H locs cells slots Q (F0 m pc ls st) := by
  obtain ⟨r1, h1, e1, hf⟩ := b2_sp hf
  subst hst
  refine va_calll (va_runS (As := As) (rest := rest) C.fix (hM r1 h1 e1) (va_cwS n C.1.2.2.2.2 (goodS C I L) rfl rfl rfl ⟨I.2.2.1.1, I.2.2.1.2, I.2.2.2⟩ hR) ⟨PcH_blind, fun U hU hW => pre_of C hH hU hW⟩ rfl hn hls rfl (lv_room hcat) hdg hcs) hH.2 (fun _ _ h => h) (fun _ h => h) (fun r2 u t H1 locs1 ht hvm hw hB hz1 hk1 hS => ?_)
  obtain ⟨rfl, rfl⟩ := hw
  exact kq H1 locs1 _ _ (HS.after ht hB.1 hS) hf
theorem pg_Sv {β : Type} {rr : β} {o : Option PH} {kf : PH → Option β} {y : MethodName} {bytes : ByteArray} {maxL n index d : Nat} {ret : Option FieldType} {As : List Value} {st : List Value} (C : CT g own cc nL Ts p s m args meth c) (hH : HS g s H locs h) (I : MI y bytes maxL n ret) (L : SL own index y) (hf : o.bind kf = some rr)
    (hM : ∀ h1, o = some h1 → Met l y (Cond.code y bytes maxL ret :: TB) (rmD d 0 0) (PcH g As h) (QcV g h1) 0 0 (aB g))
    (hst : st = As.reverse ++ rest) (hn : As.length = n) (hls : ls.size = nL) (hcat : (rest.map fun v => v.category).sum ≤ 8) (hR : d + 1 ≤ R.frames ∧ 8 + (maxL + 11) + 41 * d ≤ R.locals) (hcs : cells ≤ R.cells ∧ slots ≤ R.slots) (hdg : decode cc pc = .ok (.invokestatic index, 3))
    (kq : ∀ (H : Heap) (locs : List Loc) (h1 : PH), HS g s H locs h1 → kf h1 = some rr → W p l e R s m args below meth c H locs cells slots Q (F0 m (pc + 3) ls rest)) : W p l e R s m args below meth c H locs cells slots Q (F0 m pc ls st) := by
  obtain ⟨h1, e1, hf⟩ := bnd hf
  subst hst
  refine va_callv (va_runS (As := As) (rest := rest) C.fix (hM h1 e1) (va_cwS n C.1.2.2.2.2 (goodS C I L) rfl rfl rfl ⟨I.2.2.1.1, I.2.2.1.2, I.2.2.2⟩ hR) ⟨PcH_blind, fun U hU hW => pre_of C hH hU hW⟩ rfl hn hls rfl (lv_room hcat) hdg hcs) hH.2 (fun _ _ h => h) (fun _ h => h) (fun u t H1 locs1 ht hvm hw hB hz1 hk1 hS => ?_)
  subst hw
  exact kq H1 locs1 _ (HS.after ht hB.1 hS) hf
theorem pg_ct {y : MethodName} {rm : Room} {maxL : Nat} {ret : Option FieldType} {s₁ : State} {Tw : List Cond} (B : BodyLoose p l y (headSpec (Cond.code y cc maxL ret :: TB) rm) cc maxL ret e s m args below meth c s₁) (hml : c.maxLocals = maxL) (hH : hh g s.heap h) (hkk : kk g s) : CT g y.cls cc maxL (Cond.code y cc maxL ret :: TB) p s m args meth c :=
  ⟨⟨B.exec, B.bytes, hml, findClass_of_methodNamed B.named, atoms_spec (ws := Cond.code y cc maxL ret :: TB) B.pre⟩, fun w hw => List.mem_cons_of_mem _ hw, B.notSynchronized, hkk, by rw [hH.1]; exact Nat.le_add_right _ _⟩
end RC
