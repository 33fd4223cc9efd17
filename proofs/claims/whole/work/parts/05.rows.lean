/-! ===== 05: rows of the machine over the pure heap: each takes the pure program's rest hf along ===== -/
section RW
variable {p : Program} {l : Launch} {e : Env} {R : Room} {s : State} {m : MethodId} {args : Array Value} {below : List Frame} {meth : Method} {c : Code} {H : Heap} {locs : List Loc} {cells slots : Nat} {Q : State → Prop}
variable {cc : ByteArray} {pc : Nat} {ls : Array Slot} {rest : List Value} {g : GD} {own : String} {nL : Nat} {Ts : List Cond} {h : PH}
/-- a field's link: class number, slot -/
def FL (own : String) (index ci k : Nat) : Prop := ∃ (Cn : String) (T : u_T) (N : Nat) (ty0 : Nat → FieldType), vwCl[ci]? = some (Cn, T, N) ∧ (∀ w ∈ u_ws Cn T N, w ∈ TB) ∧ k < N ∧ Cond.fieldLink own index (T k).1 (T k).2.1 (T k).2.2.1 ∈ TB ∧ (∀ k, k < N → parseFieldDescriptor (T k).2.2.1 = some (ty0 k)) ∧ (∀ a, a < N → ∀ b, b < N → a ≠ b → (T a).2.1 ≠ (T b).2.1)
theorem pg_gI {β : Type} {r : β} {index ci k a : Nat} {kf : Int32 → Option β} (C : CT g own cc nL Ts p s m args meth c) (hH : HS g s H locs h) (F : FL own index ci k) (hf : (gI ci k h a).bind kf = some r) (hdg : decode cc pc = .ok (.getfield index, 3))
    (kq : ∀ v : Int32, kf v = some r → W p l e R s m args below meth c H locs cells slots Q (F0 m (pc + 3) ls (.int v :: rest))) : W p l e R s m args below meth c H locs cells slots Q (F0 m pc ls (.ref (gB g + a) :: rest)) := by
  obtain ⟨v, e1, hf⟩ := bnd hf
  obtain ⟨fs, e2, e3⟩ := gI_sp e1
  obtain ⟨Cn, T, N, ty0, hc, hin, hk, hlink, -, -⟩ := F
  obtain ⟨⟨hx, hb, -, hown, hts⟩, htb, -, hkk, -⟩ := C
  exact va_get (v := .int v) hx hb hts (fun w hw => htb w (hin w hw)) hown hkk.1 (hH.1.at e2) 0 rfl hc k hk (hts _ (htb _ hlink)) (fun _ h9 => h9) (by rw [List.getElem?_map, e3]; rfl) hdg (kq v hf)
theorem pg_gL {β : Type} {r : β} {index ci k a : Nat} {kf : Int64 → Option β} (C : CT g own cc nL Ts p s m args meth c) (hH : HS g s H locs h) (F : FL own index ci k) (hf : (gL ci k h a).bind kf = some r) (hdg : decode cc pc = .ok (.getfield index, 3))
    (kq : ∀ v : Int64, kf v = some r → W p l e R s m args below meth c H locs cells slots Q (F0 m (pc + 3) ls (.long v :: rest))) : W p l e R s m args below meth c H locs cells slots Q (F0 m pc ls (.ref (gB g + a) :: rest)) := by
  obtain ⟨v, e1, hf⟩ := bnd hf
  obtain ⟨fs, e2, e3⟩ := gL_sp e1
  obtain ⟨Cn, T, N, ty0, hc, hin, hk, hlink, -, -⟩ := F
  obtain ⟨⟨hx, hb, -, hown, hts⟩, htb, -, hkk, -⟩ := C
  exact va_get (v := .long v) hx hb hts (fun w hw => htb w (hin w hw)) hown hkk.1 (hH.1.at e2) 0 rfl hc k hk (hts _ (htb _ hlink)) (fun _ h9 => h9) (by rw [List.getElem?_map, e3]; rfl) hdg (kq v hf)
theorem pg_gR {β : Type} {r : β} {index ci k a : Nat} {kf : Nat → Option β} (C : CT g own cc nL Ts p s m args meth c) (hH : HS g s H locs h) (F : FL own index ci k) (hf : (gR ci k h a).bind kf = some r) (hdg : decode cc pc = .ok (.getfield index, 3))
    (kq : ∀ v : Nat, kf v = some r → W p l e R s m args below meth c H locs cells slots Q (F0 m (pc + 3) ls (.ref (gB g + v) :: rest))) : W p l e R s m args below meth c H locs cells slots Q (F0 m pc ls (.ref (gB g + a) :: rest)) := by
  obtain ⟨v, e1, hf⟩ := bnd hf
  obtain ⟨fs, e2, e3⟩ := gR_sp e1
  obtain ⟨Cn, T, N, ty0, hc, hin, hk, hlink, -, -⟩ := F
  obtain ⟨⟨hx, hb, -, hown, hts⟩, htb, -, hkk, -⟩ := C
  exact va_get (v := .ref (gB g + v)) hx hb hts (fun w hw => htb w (hin w hw)) hown hkk.1 (hH.1.at e2) 0 rfl hc k hk (hts _ (htb _ hlink)) (fun _ h9 => h9) (by rw [List.getElem?_map, e3]; rfl) hdg (kq v hf)
/-- a field that isn't final -/
def FM (ci k : Nat) (ty : FieldType) : Prop := ∃ q : vw_C, vwCl[ci]? = some q ∧ (q.2.1 k).2.2.2 = false ∧ parseFieldDescriptor (q.2.1 k).2.2.1 = some ty
theorem pg_pF {β : Type} {r : β} {index ci k a : Nat} {ty : FieldType} {v : PV} {kf : PH → Option β} (C : CT g own cc nL Ts p s m args meth c) (hH : HS g s H locs h) (F : FL own index ci k) (M : FM ci k ty) (hn : narrow ty (tv (gB g) v) = tv (gB g) v) (hfit : fits ty (tv (gB g) v) = true) (hf : (pF ci k h a v).bind kf = some r) (hdg : decode cc pc = .ok (.putfield index, 3))
    (kq : ∀ (H : Heap) (locs : List Loc) (h : PH), HS g s H locs h → kf h = some r → W p l e R s m args below meth c H locs cells slots Q (F0 m (pc + 3) ls rest)) : W p l e R s m args below meth c H locs cells slots Q (F0 m pc ls (tv (gB g) v :: .ref (gB g + a) :: rest)) := by
  obtain ⟨h', e1, hf⟩ := bnd hf
  obtain ⟨fs, e2, e3, e4⟩ := pF_sp e1
  obtain ⟨Cn, T, N, ty0, hc, hin, hk, hlink, hty, hnm⟩ := F
  obtain ⟨q, hq, hfin, hd⟩ := M
  have hqe : q = (Cn, T, N) := Option.some.inj (hq.symm.trans hc)
  subst hqe
  obtain ⟨⟨hx, hb, -, hown, hts⟩, htb, -, hkk, -⟩ := C
  have hin' : ∀ w ∈ u_ws Cn T N, w ∈ Ts := fun w hw => htb w (hin w hw)
  have hap := va_apart (own := own) hts hin' ty0 hty hnm hkk.1 hc
  obtain ⟨r0, h1, cell, q1, q2, q3, q4⟩ := hH.1.2 a _ e2
  have hr : r0 = (Cn, T, N) := Option.some.inj (h1.symm.trans hc)
  subst hr
  obtain ⟨hS, hfc, kC, hkC, hkind⟩ := hkk.1.1 ci _ hc
  obtain ⟨cf, kf0, fi, f, hi, hsl⟩ := hS k hk
  have hlay := hts _ (hin' _ (u_in_lay hk))
  unfold u_lay at hlay
  rw [if_neg (by rw [hfin]; decide)] at hlay
  have hst := (u_facts hfc hkC (u_lays hts hin' hk) hi).1
  have h6 := u_store hfc hkC hkind hlay hi hd hn hfit
  refine W.putK hx hb (f := f) ⟨hown, hts _ (htb _ hlink), ⟨_, _, _, hi⟩, hst⟩ (by rw [q2]; exact h6) q1 q3 (by rw [hsl]; exact k2_hasslot (q4 k hk)) rfl rfl hdg fun H' e1 e2' e3' => ?_
  rw [hsl] at e1 ⊢
  refine kq H' _ h' ⟨?_, hH.2.put e2' e3' (Nat.le_add_right _ _)⟩ hf
  rw [e4]
  refine hH.1.put ?_ e2' e3'
  refine ⟨_, hc, t_OB.to (V := updV (vp_V (fs.map (tv (gB g)))) k (tv (gB g) v)) ⟨_, e1, q2, q3, t_set q4 hap hk (tv (gB g) v)⟩ (fun j _ => ?_)⟩
  rw [vp_updV_set (by rw [List.length_map]; exact e3)]
  rw [List.map_set]
theorem pg_pI {β : Type} {r : β} {index ci k a : Nat} {x : Int32} {kf : PH → Option β} (C : CT g own cc nL Ts p s m args meth c) (hH : HS g s H locs h) (F : FL own index ci k) (M : FM ci k .int) (hf : (pF ci k h a (.inl x)).bind kf = some r) (hdg : decode cc pc = .ok (.putfield index, 3))
    (kq : ∀ (H : Heap) (locs : List Loc) (h : PH), HS g s H locs h → kf h = some r → W p l e R s m args below meth c H locs cells slots Q (F0 m (pc + 3) ls rest)) : W p l e R s m args below meth c H locs cells slots Q (F0 m pc ls (.int x :: .ref (gB g + a) :: rest)) :=
  pg_pF (v := .inl x) C hH F M rfl rfl hf hdg kq
theorem pg_pL {β : Type} {r : β} {index ci k a : Nat} {x : Int64} {kf : PH → Option β} (C : CT g own cc nL Ts p s m args meth c) (hH : HS g s H locs h) (F : FL own index ci k) (M : FM ci k .long) (hf : (pF ci k h a (.inr (.inl x))).bind kf = some r) (hdg : decode cc pc = .ok (.putfield index, 3))
    (kq : ∀ (H : Heap) (locs : List Loc) (h : PH), HS g s H locs h → kf h = some r → W p l e R s m args below meth c H locs cells slots Q (F0 m (pc + 3) ls rest)) : W p l e R s m args below meth c H locs cells slots Q (F0 m pc ls (.long x :: .ref (gB g + a) :: rest)) :=
  pg_pF (v := .inr (.inl x)) C hH F M rfl rfl hf hdg kq
-- arrays
theorem pg_aI {β : Type} {r : β} {a : Nat} {i : Int32} {kf : Int32 → Option β} (C : CT g own cc nL Ts p s m args meth c) (hH : HS g s H locs h) (hf : (aI 0 h a i).bind kf = some r) (hdg : decode cc pc = .ok (.iaload, 1))
    (kq : ∀ v : Int32, kf v = some r → W p l e R s m args below meth c H locs cells slots Q (F0 m (pc + 1) ls (.int v :: rest))) : W p l e R s m args below meth c H locs cells slots Q (F0 m pc ls (.int i :: .ref (gB g + a) :: rest)) := by
  obtain ⟨v, e1, hf⟩ := bnd hf
  obtain ⟨n, f, e2, e3, e4⟩ := aI_sp e1
  obtain ⟨⟨hx, hb, -, hown, hts⟩, htb, -, hkk, -⟩ := C
  subst e4
  exact va_iald hx hb hkk.1 (hH.1.at e2) 0 0 rfl rfl e3 hdg (kq _ hf)
theorem pg_aB {β : Type} {r : β} {a : Nat} {i : Int32} {kf : Int32 → Option β} (C : CT g own cc nL Ts p s m args meth c) (hH : HS g s H locs h) (hf : (aI 2 h a i).bind kf = some r) (hdg : decode cc pc = .ok (.baload, 1))
    (kq : ∀ v : Int32, kf v = some r → W p l e R s m args below meth c H locs cells slots Q (F0 m (pc + 1) ls (.int v :: rest))) : W p l e R s m args below meth c H locs cells slots Q (F0 m pc ls (.int i :: .ref (gB g + a) :: rest)) := by
  obtain ⟨v, e1, hf⟩ := bnd hf
  obtain ⟨n, f, e2, e3, e4⟩ := aI_sp e1
  obtain ⟨⟨hx, hb, -, hown, hts⟩, htb, -, hkk, -⟩ := C
  subst e4
  exact va_bald hx hb hkk.1 (hH.1.at e2) 0 2 rfl rfl e3 hdg (kq _ hf)
theorem pg_aZ {β : Type} {r : β} {a : Nat} {i : Int32} {kf : Int32 → Option β} (C : CT g own cc nL Ts p s m args meth c) (hH : HS g s H locs h) (hf : (aI 3 h a i).bind kf = some r) (hdg : decode cc pc = .ok (.baload, 1))
    (kq : ∀ v : Int32, kf v = some r → W p l e R s m args below meth c H locs cells slots Q (F0 m (pc + 1) ls (.int v :: rest))) : W p l e R s m args below meth c H locs cells slots Q (F0 m pc ls (.int i :: .ref (gB g + a) :: rest)) := by
  obtain ⟨v, e1, hf⟩ := bnd hf
  obtain ⟨n, f, e2, e3, e4⟩ := aI_sp e1
  obtain ⟨⟨hx, hb, -, hown, hts⟩, htb, -, hkk, -⟩ := C
  subst e4
  exact va_zald hx hb hkk.1 (hH.1.at e2) 0 3 rfl rfl e3 hdg (kq _ hf)
theorem pg_aL {β : Type} {r : β} {a : Nat} {i : Int32} {kf : Int64 → Option β} (C : CT g own cc nL Ts p s m args meth c) (hH : HS g s H locs h) (hf : (aL h a i).bind kf = some r) (hdg : decode cc pc = .ok (.laload, 1))
    (kq : ∀ v : Int64, kf v = some r → W p l e R s m args below meth c H locs cells slots Q (F0 m (pc + 1) ls (.long v :: rest))) : W p l e R s m args below meth c H locs cells slots Q (F0 m pc ls (.int i :: .ref (gB g + a) :: rest)) := by
  obtain ⟨v, e1, hf⟩ := bnd hf
  obtain ⟨n, f, e2, e3, e4⟩ := aL_sp e1
  obtain ⟨⟨hx, hb, -, hown, hts⟩, htb, -, hkk, -⟩ := C
  subst e4
  exact va_lald hx hb hkk.1 (hH.1.at e2) 0 1 rfl rfl e3 hdg (kq _ hf)
theorem pg_aR {β : Type} {r : β} {a t : Nat} {i : Int32} {kf : Nat → Option β} (C : CT g own cc nL Ts p s m args meth c) (hH : HS g s H locs h) (ht : t = 4 ∨ t = 5) (hf : (aR t h a i).bind kf = some r) (hdg : decode cc pc = .ok (.aaload, 1))
    (kq : ∀ v : Nat, kf v = some r → W p l e R s m args below meth c H locs cells slots Q (F0 m (pc + 1) ls (.ref (gB g + v) :: rest))) : W p l e R s m args below meth c H locs cells slots Q (F0 m pc ls (.int i :: .ref (gB g + a) :: rest)) := by
  obtain ⟨v, e1, hf2⟩ := bnd hf
  obtain ⟨n, f, e2, e3, e4⟩ := aR_sp e1
  obtain ⟨⟨hx, hb, -, hown, hts⟩, htb, -, hkk, -⟩ := C
  have hlt : i.toNatClampNeg < n := Nat.not_le.mp fun q => e3 (Or.inr q)
  have hc := hH.1.2 a _ e2
  have hv : Value.ref (gB g + v) = va_rf ((f i.toNatClampNeg).map (fun a => gB g + a)) := by rw [e4]; rfl
  rcases ht with rfl | rfl
  · exact W.aald (v := .ref (gB g + v)) (ty := .object RX8) hx hb hc ((hkk.1.2 4 _ rfl).1 n (fun j => va_rf ((f j).map (fun a => gB g + a)))) rfl (fun q => by cases q) (by show ¬ (i < 0 ∨ (arrV _ _ _).slots.size ≤ _); rw [arrV_size]; exact e3) (by show (arrV _ _ _).slots[_]? = _; rw [arrV_read _ _ hlt, hv]) rfl rfl hdg (kq _ hf2)
  · exact W.aald (v := .ref (gB g + v)) (ty := .array .int) hx hb hc ((hkk.1.2 5 _ rfl).1 n (fun j => va_rf ((f j).map (fun a => gB g + a)))) rfl (fun q => by cases q) (by show ¬ (i < 0 ∨ (arrV _ _ _).slots.size ≤ _); rw [arrV_size]; exact e3) (by show (arrV _ _ _).slots[_]? = _; rw [arrV_read _ _ hlt, hv]) rfl rfl hdg (kq _ hf2)
theorem pg_aN {β : Type} {r : β} {a t : Nat} {kf : Int32 → Option β} (C : CT g own cc nL Ts p s m args meth c) (hH : HS g s H locs h) (ht : t < 6) (hf : (aN t h a).bind kf = some r) (hdg : decode cc pc = .ok (.arraylength, 1))
    (kq : ∀ v : Int32, kf v = some r → W p l e R s m args below meth c H locs cells slots Q (F0 m (pc + 1) ls (.int v :: rest))) : W p l e R s m args below meth c H locs cells slots Q (F0 m pc ls (.ref (gB g + a) :: rest)) := by
  obtain ⟨v, e1, hf⟩ := bnd hf
  obtain ⟨n, q, e2, e3⟩ := aN_sp e1
  obtain ⟨⟨hx, hb, -, hown, hts⟩, htb, -, hkk, -⟩ := C
  have hty : ∃ ty, (tys g)[t]? = some (g.2.1 t, ty) := by
    match t, ht with
    | 0, _ => exact ⟨_, rfl⟩
    | 1, _ => exact ⟨_, rfl⟩
    | 2, _ => exact ⟨_, rfl⟩
    | 3, _ => exact ⟨_, rfl⟩
    | 4, _ => exact ⟨_, rfl⟩
    | 5, _ => exact ⟨_, rfl⟩
  obtain ⟨ty, hty⟩ := hty
  match q, e2 with
  | .inl f, e2 => exact va_alen (x := (n, .inl f)) hx hb hkk.1 (hH.1.at e2) 0 t rfl hty e3 hdg (kq _ hf)
  | .inr (.inl f), e2 => exact va_alen (x := (n, .inr (.inl f))) hx hb hkk.1 (hH.1.at e2) 0 t rfl hty e3 hdg (kq _ hf)
  | .inr (.inr f), e2 => exact va_alen (x := (n, .inr (.inr (.inr (.inr (fun i => (f i).map (fun a => gB g + a))))))) hx hb hkk.1 (hH.1.at e2) 0 t rfl hty e3 hdg (kq _ hf)
theorem pg_sI {β : Type} {r : β} {a : Nat} {i x : Int32} {kf : PH → Option β} (C : CT g own cc nL Ts p s m args meth c) (hH : HS g s H locs h) (hf : (sI h a i x).bind kf = some r) (hdg : decode cc pc = .ok (.iastore, 1))
    (kq : ∀ (H : Heap) (locs : List Loc) (h : PH), HS g s H locs h → kf h = some r → W p l e R s m args below meth c H locs cells slots Q (F0 m (pc + 1) ls rest)) : W p l e R s m args below meth c H locs cells slots Q (F0 m pc ls (.int x :: .int i :: .ref (gB g + a) :: rest)) := by
  obtain ⟨h', e1, hf⟩ := bnd hf
  obtain ⟨n, f, e2, e3, e4⟩ := sI_sp e1
  obtain ⟨⟨hx, hb, -, hown, hts⟩, htb, -, hkk, -⟩ := C
  refine W.iast hx hb (hH.1.2 a _ e2) ((hkk.1.2 0 _ rfl).1 n (fun j => .int (f j))) (fun q => by cases q) (by show ¬ (i < 0 ∨ (arrV _ _ _).slots.size ≤ _); rw [arrV_size]; exact e3) rfl rfl hdg fun H1 e z oq => ?_
  refine kq H1 _ h' ⟨?_, hH.2.put z oq (Nat.le_add_right _ _)⟩ hf
  rw [e4]
  refine hH.1.put ?_ z oq
  show H1[gB g + a]? = some (vp_cell (g.2.1 0) (n, .inl (upd f i.toNatClampNeg x)))
  rw [e, vp_cell_i]
  show some (Cell.setSlot (arrV _ _ _) _ _) = _
  rw [arrV_store]
  refine congrArg some (congrArg (arrV (g.2.1 0) n) (?_ : _ = fun j => Value.int (upd f i.toNatClampNeg x j)))
  funext q
  by_cases hq : q = i.toNatClampNeg
  · subst hq
    simp [updV, upd]
  · simp [updV, upd, hq]
theorem pg_sB {β : Type} {r : β} {a : Nat} {i x : Int32} {kf : PH → Option β} (C : CT g own cc nL Ts p s m args meth c) (hH : HS g s H locs h) (hf : (sB 2 .byte h a i x).bind kf = some r) (hdg : decode cc pc = .ok (.bastore, 1))
    (kq : ∀ (H : Heap) (locs : List Loc) (h : PH), HS g s H locs h → kf h = some r → W p l e R s m args below meth c H locs cells slots Q (F0 m (pc + 1) ls rest)) : W p l e R s m args below meth c H locs cells slots Q (F0 m pc ls (.int x :: .int i :: .ref (gB g + a) :: rest)) := by
  obtain ⟨h', e1, hf⟩ := bnd hf
  obtain ⟨n, f, e2, e3, e4⟩ := sB_sp e1
  obtain ⟨⟨hx, hb, -, hown, hts⟩, htb, -, hkk, -⟩ := C
  refine W.bast hx hb (hH.1.2 a _ e2) ((hkk.1.2 2 _ rfl).1 n (fun j => .int (f j))) (fun q => by cases q) (by show ¬ (i < 0 ∨ (arrV _ _ _).slots.size ≤ _); rw [arrV_size]; exact e3) rfl rfl hdg fun H1 e z oq => ?_
  refine kq H1 _ h' ⟨?_, hH.2.put z oq (Nat.le_add_right _ _)⟩ hf
  rw [e4]
  refine hH.1.put ?_ z oq
  show H1[gB g + a]? = some (vp_cell (g.2.1 2) (n, .inl (upd f i.toNatClampNeg (vp_nar .byte x))))
  rw [e, vp_cell_i]
  show some (Cell.setSlot (arrV _ _ _) _ _) = _
  rw [arrV_store]
  refine congrArg some (congrArg (arrV (g.2.1 2) n) (?_ : _ = fun j => Value.int (upd f i.toNatClampNeg (vp_nar .byte x) j)))
  funext q
  by_cases hq : q = i.toNatClampNeg
  · subst hq
    simp [updV, upd, vp_nar]
    try rfl
  · simp [updV, upd, hq]
theorem pg_sZ {β : Type} {r : β} {a : Nat} {i x : Int32} {kf : PH → Option β} (C : CT g own cc nL Ts p s m args meth c) (hH : HS g s H locs h) (hf : (sB 3 .boolean h a i x).bind kf = some r) (hdg : decode cc pc = .ok (.bastore, 1))
    (kq : ∀ (H : Heap) (locs : List Loc) (h : PH), HS g s H locs h → kf h = some r → W p l e R s m args below meth c H locs cells slots Q (F0 m (pc + 1) ls rest)) : W p l e R s m args below meth c H locs cells slots Q (F0 m pc ls (.int x :: .int i :: .ref (gB g + a) :: rest)) := by
  obtain ⟨h', e1, hf⟩ := bnd hf
  obtain ⟨n, f, e2, e3, e4⟩ := sB_sp e1
  obtain ⟨⟨hx, hb, -, hown, hts⟩, htb, -, hkk, -⟩ := C
  refine W.zast hx hb (hH.1.2 a _ e2) ((hkk.1.2 3 _ rfl).1 n (fun j => .int (f j))) (fun q => by cases q) (by show ¬ (i < 0 ∨ (arrV _ _ _).slots.size ≤ _); rw [arrV_size]; exact e3) rfl rfl hdg fun H1 e z oq => ?_
  refine kq H1 _ h' ⟨?_, hH.2.put z oq (Nat.le_add_right _ _)⟩ hf
  rw [e4]
  refine hH.1.put ?_ z oq
  show H1[gB g + a]? = some (vp_cell (g.2.1 3) (n, .inl (upd f i.toNatClampNeg (vp_nar .boolean x))))
  rw [e, vp_cell_i]
  show some (Cell.setSlot (arrV _ _ _) _ _) = _
  rw [arrV_store]
  refine congrArg some (congrArg (arrV (g.2.1 3) n) (?_ : _ = fun j => Value.int (upd f i.toNatClampNeg (vp_nar .boolean x) j)))
  funext q
  by_cases hq : q = i.toNatClampNeg
  · subst hq
    simp [updV, upd, vp_nar]
    try rfl
  · simp [updV, upd, hq]
theorem pg_sL {β : Type} {r : β} {a : Nat} {i : Int32} {x : Int64} {kf : PH → Option β} (C : CT g own cc nL Ts p s m args meth c) (hH : HS g s H locs h) (hf : (sL h a i x).bind kf = some r) (hdg : decode cc pc = .ok (.lastore, 1))
    (kq : ∀ (H : Heap) (locs : List Loc) (h : PH), HS g s H locs h → kf h = some r → W p l e R s m args below meth c H locs cells slots Q (F0 m (pc + 1) ls rest)) : W p l e R s m args below meth c H locs cells slots Q (F0 m pc ls (.long x :: .int i :: .ref (gB g + a) :: rest)) := by
  obtain ⟨h', e1, hf⟩ := bnd hf
  obtain ⟨n, f, e2, e3, e4⟩ := sL_sp e1
  obtain ⟨⟨hx, hb, -, hown, hts⟩, htb, -, hkk, -⟩ := C
  refine W.last hx hb (hH.1.2 a _ e2) ((hkk.1.2 1 _ rfl).1 n (fun j => .long (f j))) (fun q => by cases q) (by show ¬ (i < 0 ∨ (arrV _ _ _).slots.size ≤ _); rw [arrV_size]; exact e3) rfl rfl hdg fun H1 e z oq => ?_
  refine kq H1 _ h' ⟨?_, hH.2.put z oq (Nat.le_add_right _ _)⟩ hf
  rw [e4]
  refine hH.1.put ?_ z oq
  show H1[gB g + a]? = some (vp_cell (g.2.1 1) (n, .inr (.inl (vp_updL f i.toNatClampNeg x))))
  rw [e, vp_cell_l]
  show some (Cell.setSlot (arrV _ _ _) _ _) = _
  rw [arrV_store]
  refine congrArg some (congrArg (arrV (g.2.1 1) n) (?_ : _ = fun j => Value.long (vp_updL f i.toNatClampNeg x j)))
  funext q
  by_cases hq : q = i.toNatClampNeg
  · subst hq
    simp [updV, vp_updL]
  · simp [updV, vp_updL, hq]
end RW
