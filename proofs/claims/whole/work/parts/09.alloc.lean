/-! ===== 09: what constructors do: new cells, final fields, calls of constructors ===== -/
def al {β : Type} (e : PC) (h : PH) (f : Nat → PH → Option β) : Option β := f h.1 (h.1 + 1, va_up h.2 h.1 (some e))
/-- new int[n][k] -/
def al2 {β : Type} (n k : Nat) (h : PH) (f : Nat → PH → Option β) : Option β := f h.1 (h.1 + 1 + n, fun a => if a = h.1 then some (.inr (5, n, .inr (.inr (fun i => if i < n then some (h.1 + 1 + i) else none)))) else if h.1 < a ∧ a ≤ h.1 + n then some (.inr (0, k, .inl (fun _ => 0))) else h.2 a)
def sR (h : PH) (a : Nat) (i : Int32) (x : Nat) : Option PH := match h.2 a with
  | some (.inr (t', n, .inr (.inr f))) => if t' = 4 ∧ 0 ≤ i.toInt ∧ i.toInt < n then (if isO h x 8 = true then some (h.1, va_up h.2 a (some (.inr (4, n, .inr (.inr (va_up f i.toNatClampNeg (some x))))))) else none) else none
  | _ => none
theorem sR_sp {a x : Nat} {h h' : PH} {i : Int32} (e : sR h a i x = some h') : ∃ n f, h.2 a = some (.inr (4, n, .inr (.inr f))) ∧ vp_in i n ∧ isO h x 8 = true ∧ h' = (h.1, va_up h.2 a (some (.inr (4, n, .inr (.inr (va_up f i.toNatClampNeg (some x))))))) := by
  unfold sR at e
  split at e
  · rename_i t' n f hc
    split at e
    · rename_i hci
      split at e
      · rename_i hO
        cases e
        exact ⟨n, f, by rw [hc, hci.1], vp_in_iff.mpr hci.2, hO, rfl⟩
      · cases e
    · cases e
  · cases e
theorem hh.push {g : GD} {H H1 : Heap} {h : PH} (hH : hh g H h) {e : PC} (z : H1.size = H.size + 1) (oq : ∀ q : Nat, q < H.size → H1[q]? = H[q]?) (he : va_at g.1 vwCl (gB g + h.1, te g.2.1 (gB g) e) H1) : hh g H1 (h.1 + 1, va_up h.2 h.1 (some e)) := by
  refine ⟨by rw [z, hH.1]; rfl, fun b x hb => ?_⟩
  have hb' : va_up h.2 h.1 (some e) b = some x := hb
  by_cases hab : b = h.1
  · subst hab
    simp only [va_up, if_true] at hb'
    cases hb'
    exact he
  · simp only [va_up, if_neg hab] at hb'
    exact (hH.2 b x hb').kept (oq _ (hH.2 b x hb').lt)
theorem va_S.grow {A : Nat → Prop} {H0 H H1 : Heap} {locs : List Loc} (hS : va_S A H0 H locs) (z : H.size ≤ H1.size) (o1 : ∀ q : Nat, q < H.size → H1[q]? = H[q]?) : va_S A H0 H1 locs :=
  ⟨Nat.le_trans hS.1 z, fun x h1 h2 => (o1 x (Nat.lt_of_lt_of_le h1 hS.1)).trans (hS.2.1 x h1 h2), hS.2.2⟩
section RN
variable {p : Program} {l : Launch} {e : Env} {R : Room} {s : State} {m : MethodId} {args : Array Value} {below : List Frame} {meth : Method} {c : Code} {H : Heap} {locs : List Loc} {cells slots : Nat} {Q : State → Prop}
variable {cc : ByteArray} {pc : Nat} {ls : Array Slot} {rest : List Value} {g : GD} {own : String} {nL : Nat} {Ts : List Cond} {h : PH}
/-- a class that is made here: its number, its link, the defaults of its fields -/
def NC (own : String) (index ci N : Nat) (fs : List PV) : Prop := ∃ (Cn : String) (T : u_T) (ty : Nat → FieldType), vwCl[ci]? = some (Cn, T, N) ∧ (∀ w ∈ u_ws Cn T N, w ∈ TB) ∧ (∀ k, k < N → parseFieldDescriptor (T k).2.2.1 = some (ty k)) ∧ Cond.classLink own index Cn ∈ TB ∧ Cond.instantiable Cn N ∈ TB ∧ Cond.initialized Cn ∈ TB ∧ ∀ B j, j < N → defaultValue (ty j) = vp_V (fs.map (tv B)) j
theorem pg_new {β : Type} {r : β} {index ci N : Nat} {fs : List PV} {kf : Nat → PH → Option β} (C : CT g own cc nL Ts p s m args meth c) (hH : HS g s H locs h) (N0 : NC own index ci N fs) (hf : al (.inl (ci, fs)) h kf = some r) (hcells : cells + 1 ≤ R.cells) (hslots : slots + N ≤ R.slots) (hdg : decode cc pc = .ok (.new index, 3))
    (kq : ∀ (H : Heap) (a : Nat) (h1 : PH), HS g s H locs h1 → kf a h1 = some r → W p l e R s m args below meth c H locs (cells + 1) (slots + N) Q (F0 m (pc + 3) ls (.ref (gB g + a) :: rest))) : W p l e R s m args below meth c H locs cells slots Q (F0 m pc ls rest) := by
  obtain ⟨⟨hx, hb, -, hown, hts⟩, htb, -, hkk, -⟩ := C
  obtain ⟨Cn, T, ty, hc, hin, hty, hcl, hinst, hini, hfs⟩ := N0
  have hin' : ∀ w ∈ u_ws Cn T N, w ∈ Ts := fun w hw => htb w (hin w hw)
  have hKn := hkk.1.1 ci _ hc
  refine W.newcK hx hb hown (hts _ (htb _ hcl)) (hts _ (htb _ hinst)) (hts _ (htb _ hini)) rfl hdg hcells hslots hKn.2.1 hH.1.1 fun H1 kC hkC e1 z1 o1 => ?_
  rw [← hH.1.1] at z1 o1
  refine kq H1 h.1 _ ⟨hH.1.push z1 o1 ?_, hH.2.grow (by omega) o1⟩ hf
  exact ⟨_, hc, (u_born ty hts hin' hKn hkC e1 hty).to (hfs (gB g))⟩
theorem pg_newa {β : Type} {r : β} {t N' : Nat} {n : Int32} {atype : ArrayType} {ty : FieldType} {z : PA} {kf : Nat → PH → Option β} (C : CT g own cc nL Ts p s m args meth c) (hH : HS g s H locs h) (harr : Cond.arrayClass (newarray.typeOf atype) ∈ TB) (hRA : s.vm.findClass ("[" ++ (newarray.typeOf atype).toString) = some (g.2.1 t)) (hz : va_at g.1 vwCl (gB g + h.1, te g.2.1 (gB g) (.inr (t, N', z))) = fun H => H[gB g + h.1]? = some (arrV (g.2.1 t) N' (fun _ => defaultValue (newarray.typeOf atype)))) (hf : al (.inr (t, N', z)) h kf = some r) (hn : ¬ n < 0) (hN : n.toNatClampNeg = N') (hbytes : N' * componentBytes (newarray.typeOf atype) ≤ 536870912) (hcells : cells + 1 ≤ R.cells) (hslots : slots + N' ≤ R.slots) (hdg : decode cc pc = .ok (.newarray atype, 2))
    (kq : ∀ (H : Heap) (a : Nat) (h1 : PH), HS g s H locs h1 → kf a h1 = some r → W p l e R s m args below meth c H locs (cells + 1) (slots + N') Q (F0 m (pc + 2) ls (.ref (gB g + a) :: rest))) : W p l e R s m args below meth c H locs cells slots Q (F0 m pc ls (.int n :: rest)) := by
  obtain ⟨⟨hx, hb, -, hown, hts⟩, htb, -, hkk, -⟩ := C
  refine va_newaK hx hb (hts _ (htb _ harr)) rfl hdg rfl hn hN hbytes hcells hslots hH.1.1 fun H1 cA e1 z1 o1 hAr hNm => ?_
  have hcA : cA = g.2.1 t := Option.some.inj (hNm.symm.trans hRA)
  subst hcA
  rw [← hH.1.1] at z1 o1
  refine kq H1 h.1 _ ⟨hH.1.push z1 o1 ?_, hH.2.grow (by omega) o1⟩ hf
  rw [hz]
  exact e1
theorem pg_newI {β : Type} {r : β} {N' : Nat} {n : Int32} {kf : Nat → PH → Option β} (C : CT g own cc nL Ts p s m args meth c) (hH : HS g s H locs h) (harr : Cond.arrayClass .int ∈ TB) (hf : al (.inr (0, N', .inl (fun _ => 0))) h kf = some r) (hn : ¬ n < 0) (hN : n.toNatClampNeg = N') (hbytes : N' * componentBytes .int ≤ 536870912) (hcells : cells + 1 ≤ R.cells) (hslots : slots + N' ≤ R.slots) (hdg : decode cc pc = .ok (.newarray .int, 2))
    (kq : ∀ (H : Heap) (a : Nat) (h1 : PH), HS g s H locs h1 → kf a h1 = some r → W p l e R s m args below meth c H locs (cells + 1) (slots + N') Q (F0 m (pc + 2) ls (.ref (gB g + a) :: rest))) : W p l e R s m args below meth c H locs cells slots Q (F0 m pc ls (.int n :: rest)) :=
  pg_newa (t := 0) (atype := .int) (ty := .int) C hH harr (C.2.2.2.1.1.2 0 _ rfl).2 rfl hf hn hN hbytes hcells hslots hdg kq
theorem pg_newL {β : Type} {r : β} {N' : Nat} {n : Int32} {kf : Nat → PH → Option β} (C : CT g own cc nL Ts p s m args meth c) (hH : HS g s H locs h) (harr : Cond.arrayClass .long ∈ TB) (hf : al (.inr (1, N', .inr (.inl (fun _ => 0)))) h kf = some r) (hn : ¬ n < 0) (hN : n.toNatClampNeg = N') (hbytes : N' * componentBytes .long ≤ 536870912) (hcells : cells + 1 ≤ R.cells) (hslots : slots + N' ≤ R.slots) (hdg : decode cc pc = .ok (.newarray .long, 2))
    (kq : ∀ (H : Heap) (a : Nat) (h1 : PH), HS g s H locs h1 → kf a h1 = some r → W p l e R s m args below meth c H locs (cells + 1) (slots + N') Q (F0 m (pc + 2) ls (.ref (gB g + a) :: rest))) : W p l e R s m args below meth c H locs cells slots Q (F0 m pc ls (.int n :: rest)) :=
  pg_newa (t := 1) (atype := .long) (ty := .long) C hH harr (C.2.2.2.1.1.2 1 _ rfl).2 rfl hf hn hN hbytes hcells hslots hdg kq
theorem pg_newB {β : Type} {r : β} {N' : Nat} {n : Int32} {kf : Nat → PH → Option β} (C : CT g own cc nL Ts p s m args meth c) (hH : HS g s H locs h) (harr : Cond.arrayClass .byte ∈ TB) (hf : al (.inr (2, N', .inl (fun _ => 0))) h kf = some r) (hn : ¬ n < 0) (hN : n.toNatClampNeg = N') (hbytes : N' * componentBytes .byte ≤ 536870912) (hcells : cells + 1 ≤ R.cells) (hslots : slots + N' ≤ R.slots) (hdg : decode cc pc = .ok (.newarray .byte, 2))
    (kq : ∀ (H : Heap) (a : Nat) (h1 : PH), HS g s H locs h1 → kf a h1 = some r → W p l e R s m args below meth c H locs (cells + 1) (slots + N') Q (F0 m (pc + 2) ls (.ref (gB g + a) :: rest))) : W p l e R s m args below meth c H locs cells slots Q (F0 m pc ls (.int n :: rest)) :=
  pg_newa (t := 2) (atype := .byte) (ty := .byte) C hH harr (C.2.2.2.1.1.2 2 _ rfl).2 rfl hf hn hN hbytes hcells hslots hdg kq
theorem pg_newZ {β : Type} {r : β} {N' : Nat} {n : Int32} {kf : Nat → PH → Option β} (C : CT g own cc nL Ts p s m args meth c) (hH : HS g s H locs h) (harr : Cond.arrayClass .boolean ∈ TB) (hf : al (.inr (3, N', .inl (fun _ => 0))) h kf = some r) (hn : ¬ n < 0) (hN : n.toNatClampNeg = N') (hbytes : N' * componentBytes .boolean ≤ 536870912) (hcells : cells + 1 ≤ R.cells) (hslots : slots + N' ≤ R.slots) (hdg : decode cc pc = .ok (.newarray .boolean, 2))
    (kq : ∀ (H : Heap) (a : Nat) (h1 : PH), HS g s H locs h1 → kf a h1 = some r → W p l e R s m args below meth c H locs (cells + 1) (slots + N') Q (F0 m (pc + 2) ls (.ref (gB g + a) :: rest))) : W p l e R s m args below meth c H locs cells slots Q (F0 m pc ls (.int n :: rest)) :=
  pg_newa (t := 3) (atype := .boolean) (ty := .boolean) C hH harr (C.2.2.2.1.1.2 3 _ rfl).2 rfl hf hn hN hbytes hcells hslots hdg kq
theorem pg_newW {β : Type} {r : β} {N' index : Nat} {n : Int32} {kf : Nat → PH → Option β} (C : CT g own cc nL Ts p s m args meth c) (hH : HS g s H locs h) (hcl : Cond.classLink own index RX8 ∈ TB) (hao : va_AO RX8 s) (hf : al (.inr (4, N', .inr (.inr (fun _ => none)))) h kf = some r) (hn : ¬ n < 0) (hN : n.toNatClampNeg = N') (hbytes : N' * 4 ≤ 536870912) (hcells : cells + 1 ≤ R.cells) (hslots : slots + N' ≤ R.slots) (hdg : decode cc pc = .ok (.anewarray index, 3))
    (kq : ∀ (H : Heap) (a : Nat) (h1 : PH), HS g s H locs h1 → kf a h1 = some r → W p l e R s m args below meth c H locs (cells + 1) (slots + N') Q (F0 m (pc + 3) ls (.ref (gB g + a) :: rest))) : W p l e R s m args below meth c H locs cells slots Q (F0 m pc ls (.int n :: rest)) := by
  obtain ⟨⟨hx, hb, -, hown, hts⟩, htb, -, hkk, -⟩ := C
  subst hN
  refine W.anew hx hb hown (hts _ (htb _ hcl)) (va_AO.use hao) rfl hdg rfl hn hbytes hcells hslots fun cA kA comp f1 f2 f3 f4 => ?_
  generalize hH1 : H.push ({ cls := cA, slots := Array.replicate n.toNatClampNeg .null, vm := .none } : Cell) = H1
  have z1 : H1.size = H.size + 1 := by rw [← hH1, Array.size_push]
  have e1 : H1[H.size]? = some (arrV cA n.toNatClampNeg (fun _ => .null)) := by rw [← hH1, Array.getElem?_push_size, ← arrV_new]
  have o1 : ∀ q : Nat, q < H.size → H1[q]? = H[q]? := fun q hq => by rw [← hH1, Array.getElem?_push, if_neg (Nat.ne_of_lt hq)]
  obtain ⟨-, -, -, -, -, f5⟩ := (hkk.1.2 4 _ rfl).2
  have hcA : cA = g.2.1 4 := Option.some.inj (f1.symm.trans f5)
  subst hcA
  have hsz := hH.1.1
  show W p l e R s m args below meth c H1 locs (cells + 1) (slots + n.toNatClampNeg) Q (F0 m (pc + 3) ls (.ref (Array.size H) :: rest))
  rw [hsz]
  refine kq H1 h.1 _ ⟨hH.1.push z1 o1 ?_, hH.2.grow (by omega) o1⟩ hf
  show H1[gB g + h.1]? = some _
  rw [← hsz, e1]
  rfl
theorem pg_sR {β : Type} {r : β} {a x : Nat} {i : Int32} {kf : PH → Option β} (C : CT g own cc nL Ts p s m args meth c) (hH : HS g s H locs h) (hf : (sR h a i x).bind kf = some r) (hdg : decode cc pc = .ok (.aastore, 1))
    (kq : ∀ (H : Heap) (locs : List Loc) (h : PH), HS g s H locs h → kf h = some r → W p l e R s m args below meth c H locs cells slots Q (F0 m (pc + 1) ls rest)) : W p l e R s m args below meth c H locs cells slots Q (F0 m pc ls (.ref (gB g + x) :: .int i :: .ref (gB g + a) :: rest)) := by
  obtain ⟨h', e1, hf⟩ := bnd hf
  obtain ⟨n, f, e2, e3, e5, e4⟩ := sR_sp e1
  obtain ⟨⟨hx, hb, -, hown, hts⟩, htb, -, hkk, -⟩ := C
  obtain ⟨fs, hfs⟩ := isO_sp e5
  have hlt : i.toNatClampNeg < n := Nat.not_le.mp fun q => e3 (Or.inr q)
  have h0 : ¬ i < 0 := fun q => e3 (Or.inl q)
  obtain ⟨r', hr', cellV, g1, g2, g3, -⟩ := hH.1.2 x _ hfs
  have hcls := (hkk.1.1 8 _ rfl).2
  obtain ⟨kA, comp, k1, k2, k3, -⟩ := (hkk.1.2 4 _ rfl).2
  have hcomp : comp = g.1.1 8 := Option.some.inj (k3.symm.trans hcls.1)
  subst hcomp
  obtain ⟨kC, hkC, -⟩ := hcls.2
  refine W.aast hx hb (hH.1.2 a _ e2) (fun q h => by cases h) (fun h => by cases h) k1 k2 rfl hkC ⟨h0, by show _ < (arrV _ _ _).slots.size; rw [arrV_size]; exact hlt⟩ g1 (fun q h => by rw [g3] at h; cases h) (by rw [g2]; exact hkC) (by rw [g2]; exact va_assign hcls) rfl rfl hdg fun H1 e z oq => ?_
  refine kq H1 _ h' ⟨?_, hH.2.put z oq (Nat.le_add_right _ _)⟩ hf
  rw [e4]
  refine hH.1.put ?_ z oq
  show H1[gB g + a]? = some (vp_cell (g.2.1 4) (n, .inr (.inr (.inr (.inr (fun j => (va_up f i.toNatClampNeg (some x) j).map (fun a => gB g + a)))))))
  rw [e, vp_cell_q]
  show some (Cell.setSlot (arrV _ _ _) _ _) = _
  rw [arrV_store]
  refine congrArg some (congrArg (arrV (g.2.1 4) n) (?_ : _ = fun j => va_rf ((va_up f i.toNatClampNeg (some x) j).map (fun a => gB g + a))))
  funext q
  by_cases hq : q = i.toNatClampNeg
  · subst hq
    simp [updV, va_up, va_rf]
  · simp [updV, va_up, hq]
/-- a final field -/
def FF (own : String) (ci k : Nat) (ty : FieldType) : Prop := ∃ q : vw_C, vwCl[ci]? = some q ∧ (q.2.1 k).2.2.2 = true ∧ (q.2.1 k).1 = own ∧ parseFieldDescriptor (q.2.1 k).2.2.1 = some ty
theorem pg_pR {β : Type} {r : β} {index ci k a x : Nat} {ty : FieldType} {kf : PH → Option β} (C : CT g own cc nL Ts p s m args meth c) (hin2 : meth.name = "<init>") (hH : HS g s H locs h) (F : FL own index ci k) (M : FF own ci k ty) (hn : narrow ty (.ref (gB g + x)) = .ref (gB g + x)) (hfit : fits ty (.ref (gB g + x)) = true) (hf : (pF ci k h a (.inr (.inr (some x)))).bind kf = some r) (hdg : decode cc pc = .ok (.putfield index, 3))
    (kq : ∀ (H : Heap) (locs : List Loc) (h : PH), HS g s H locs h → kf h = some r → W p l e R s m args below meth c H locs cells slots Q (F0 m (pc + 3) ls rest)) : W p l e R s m args below meth c H locs cells slots Q (F0 m pc ls (.ref (gB g + x) :: .ref (gB g + a) :: rest)) := by
  obtain ⟨h', e1, hf⟩ := bnd hf
  obtain ⟨fs, e2, e3, e4⟩ := pF_sp e1
  obtain ⟨Cn, T, N, ty0, hc, hin, hk, hlink, hty, hnm⟩ := F
  obtain ⟨q, hq, hfin, hdecl, hd⟩ := M
  have hqe : q = (Cn, T, N) := Option.some.inj (hq.symm.trans hc)
  subst hqe
  obtain ⟨⟨hx, hb, -, hown, hts⟩, htb, -, hkk, -⟩ := C
  have hin' : ∀ w ∈ u_ws Cn T N, w ∈ Ts := fun w hw => htb w (hin w hw)
  have hap := va_apart (own := own) hts hin' ty0 hty hnm hkk.1 hc
  obtain ⟨r0, h1, cell, q1, q2, q3, q4⟩ := hH.1.2 a _ e2
  have hr : r0 = (Cn, T, N) := Option.some.inj (h1.symm.trans hc)
  subst hr
  obtain ⟨hS, hfc, kC, hkC, hkind⟩ := hkk.1.1 ci _ hc
  obtain ⟨cf, kf0, fi, f, hi, hsl⟩ := hS k hk
  have hlay := hts _ (hin' _ (u_in_lay hk))
  unfold u_lay at hlay
  rw [if_pos hfin] at hlay
  have hst := (u_facts hfc hkC (u_lays hts hin' hk) hi).1
  have hcf : m.cls = cf := by
    obtain ⟨_, _, c', _, _, _, -, -, hf', -, -, -, hown2, -⟩ := Cond.laysFinal_spec hlay
    have e1 : c' = cf := by have := hi.symm.trans hf'; simp at this; exact this.1.symm
    rw [hdecl] at hown2
    rw [← e1]; exact Option.some.inj (hown.symm.trans hown2)
  have h6 := u_fits hfc hkC hkind (Or.inr hlay) hi hd hn hfit
  refine W.putFinK hx hb hown (hts _ (htb _ hlink)) hi hst hcf hin2 (by rw [q2]; exact h6) q1 q3 (by rw [hsl]; exact k2_hasslot (q4 k hk)) rfl rfl hdg fun H' e1 e2' e3' => ?_
  rw [hsl] at e1 ⊢
  refine kq H' _ h' ⟨?_, hH.2.put e2' e3' (Nat.le_add_right _ _)⟩ hf
  rw [e4]
  refine hH.1.put ?_ e2' e3'
  refine ⟨_, hc, t_OB.to (V := updV (vp_V (fs.map (tv (gB g)))) k (.ref (gB g + x))) ⟨_, e1, q2, q3, t_set q4 hap hk (.ref (gB g + x))⟩ (fun j _ => ?_)⟩
  rw [vp_updV_set (by rw [List.length_map]; exact e3)]
  rw [List.map_set]
  rfl
def OI (own : String) (index : Nat) : Prop := Cond.methodLink own index objectInit ∈ TB ∧ Cond.instanceMethod objectInit ∈ TB ∧ Cond.code objectInit ⟨#[0xb1]⟩ 1 none ∈ TB
theorem pg_obj {index a : Nat} (C : CT g own cc nL Ts p s m args meth c) (O : OI own index) (hls : ls.size = nL) (hfr : 1 ≤ R.frames) (hlo : (rest.map fun v => v.category).sum + 12 ≤ R.locals) (hdg : decode cc pc = .ok (.invokespecial index, 3))
    (kq : W p l e R s m args below meth c H locs cells slots Q (F0 m (pc + 3) ls rest)) : W p l e R s m args below meth c H locs cells slots Q (F0 m pc ls (.ref a :: rest)) := by
  obtain ⟨⟨hx, hb, hml, hown, hts⟩, htb, -, -, -⟩ := C
  refine W.objInit hx hb hown (hts _ (htb _ O.1)) (hts _ (htb _ O.2.1)) (hts _ (htb _ O.2.2)) rfl (by rw [hml]; exact hls) rfl hdg hfr (by show 2 * 0 + _ + _ ≤ _; omega) ?_
  exact W.eq (g2 := F0 m (pc + 3) ls rest) rfl kq
/-- a constructor is called -/
theorem pg_Iv {β : Type} {rr : β} {o : Option PH} {kf : PH → Option β} {y : MethodName} {bytes : ByteArray} {maxL n index d a mc ms : Nat} {As : List Value} {st : List Value} (C : CT g own cc nL Ts p s m args meth c) (hH : HS g s H locs h) (I : MI y bytes maxL n none) (L : Cond.methodLink own index y ∈ TB ∧ Cond.instanceMethod y ∈ TB) (hy : y.name = "<init>") (hf : o.bind kf = some rr)
    (hM : ∀ h1, o = some h1 → Met l y (Cond.code y bytes maxL none :: TB) (rmD d mc ms) (PcH g (.ref (gB g + a) :: As) h) (QcV g h1) mc ms (aB g))
    (hst : st = As.reverse ++ .ref (gB g + a) :: rest) (hn : As.length = n) (hls : ls.size = nL) (hcat : (rest.map fun v => v.category).sum ≤ 8) (hR : d + 1 ≤ R.frames ∧ 8 + (maxL + 11) + 41 * d ≤ R.locals) (hcs : cells + mc ≤ R.cells ∧ slots + ms ≤ R.slots) (hdg : decode cc pc = .ok (.invokespecial index, 3))
    (kq : ∀ (H : Heap) (locs : List Loc) (h1 : PH), HS g s H locs h1 → kf h1 = some rr → W p l e R s m args below meth c H locs (cells + mc) (slots + ms) Q (F0 m (pc + 3) ls rest)) : W p l e R s m args below meth c H locs cells slots Q (F0 m pc ls st) := by
  obtain ⟨h1, e1, hf⟩ := bnd hf
  subst hst
  refine va_callv (va_runI (As := As) (rest := rest) C.fix (hM h1 e1) (cwI n C.1.2.2.2.2 (goodN C I) rfl rfl rfl (C.1.2.2.2.2 _ (C.2.1 _ I.2.1)) (C.1.2.2.2.2 _ (C.2.1 _ L.1)) (C.1.2.2.2.2 _ (C.2.1 _ L.2)) hy ⟨I.2.2.1.1, I.2.2.1.2, I.2.2.2⟩ hR) ⟨PcH_blind, fun U hU hW => pre_of C hH hU hW⟩ rfl hn hls rfl (lv_room hcat) hdg hcs) hH.2 (fun _ _ h => h) (fun _ h => h) (fun u t H1 locs1 ht hvm hw hB hz1 hk1 hS => ?_)
  subst hw
  exact kq H1 locs1 _ (HS.after ht hB.1 hS) hf
theorem pg_INv {β : Type} {rr : β} {o : Option PH} {kf : PH → Option β} {y : MethodName} {bytes : ByteArray} {maxL n index d a mc ms : Nat} {As : List Value} {st : List Value} (C : CT g own cc nL Ts p s m args meth c) (hH : HS g s H locs h) (I : MI y bytes maxL n none) (L : (own, index, y) ∈ nestM) (hi : Cond.instanceMethod y ∈ TB) (hy : y.name = "<init>") (hf : o.bind kf = some rr)
    (hM : ∀ h1, o = some h1 → Met l y (Cond.code y bytes maxL none :: TB) (rmD d mc ms) (PcH g (.ref (gB g + a) :: As) h) (QcV g h1) mc ms (aB g))
    (hst : st = As.reverse ++ .ref (gB g + a) :: rest) (hn : As.length = n) (hls : ls.size = nL) (hcat : (rest.map fun v => v.category).sum ≤ 8) (hR : d + 1 ≤ R.frames ∧ 8 + (maxL + 11) + 41 * d ≤ R.locals) (hcs : cells + mc ≤ R.cells ∧ slots + ms ≤ R.slots) (hdg : decode cc pc = .ok (.invokespecial index, 3))
    (kq : ∀ (H : Heap) (locs : List Loc) (h1 : PH), HS g s H locs h1 → kf h1 = some rr → W p l e R s m args below meth c H locs (cells + mc) (slots + ms) Q (F0 m (pc + 3) ls rest)) : W p l e R s m args below meth c H locs cells slots Q (F0 m pc ls st) := by
  obtain ⟨h1, e1, hf⟩ := bnd hf
  subst hst
  refine va_callv (va_runIN (As := As) (rest := rest) C.fix (hM h1 e1) ⟨va_cnB n C.1.2.2.2.2 (goodN C I) rfl rfl rfl (C.2.2.2.1.2.2.1.2 _ L) (C.1.2.2.2.2 _ (C.2.1 _ I.2.1)) ⟨I.2.2.1.1, I.2.2.1.2, I.2.2.2⟩ hR, hy, C.1.2.2.2.2 _ (C.2.1 _ hi)⟩ ⟨PcH_blind, fun U hU hW => pre_of C hH hU hW⟩ rfl hn hls rfl (lv_room hcat) hdg hcs) hH.2 (fun _ _ h => h) (fun _ h => h) (fun u t H1 locs1 ht hvm hw hB hz1 hk1 hS => ?_)
  subst hw
  exact kq H1 locs1 _ (HS.after ht hB.1 hS) hf
-- texts
theorem pg_ldcS {i index : Nat} {tx : String} (hi : strT[i]? = some (own, index, tx)) (C : CT g own cc nL Ts p s m args meth c) (hdg : decode cc pc = .ok (.ldc index, 2))
    (kq : W p l e R s m args below meth c H locs cells slots Q (F0 m (pc + 2) ls (.ref (gK g i) :: rest))) : W p l e R s m args below meth c H locs cells slots Q (F0 m pc ls rest) := by
  obtain ⟨⟨hx, hb, hml, hown, hts⟩, htb, -, hkk, -⟩ := C
  exact va_ldcS hx hb hown (hkk.2.2.2.2.2.1 i _ hi) hdg kq
theorem pg_ldcwS {i index : Nat} {tx : String} (hi : strT[i]? = some (own, index, tx)) (C : CT g own cc nL Ts p s m args meth c) (hdg : decode cc pc = .ok (.ldc_w index, 3))
    (kq : W p l e R s m args below meth c H locs cells slots Q (F0 m (pc + 3) ls (.ref (gK g i) :: rest))) : W p l e R s m args below meth c H locs cells slots Q (F0 m pc ls rest) := by
  obtain ⟨⟨hx, hb, hml, hown, hts⟩, htb, -, hkk, -⟩ := C
  intro T hT X
  obtain ⟨t, a1, b1⟩ := kq T hT X
  exact ⟨t, X.ldcStringW hx hown (text := tx) (a := gK g i) (hkk.2.2.2.2.2.1 i _ hi).1 (hkk.2.2.2.2.2.1 i _ hi).2 (g := F0 m pc ls rest) rfl (by rw [hb]; exact hdg) t a1, b1⟩
end RN
/-! texts: a text is its number in strT -/
def kLen (i : Nat) : Option Int32 := if i < 7 then some (Int32.ofNat (strL.getD i 0)) else none
def kAt (i : Nat) (k : Int32) : Option Int32 := if i < 7 ∧ 0 ≤ k.toInt ∧ k.toInt < (strL.getD i 0 : Nat) then some ((strB.getD i []).getD k.toNatClampNeg 0) else none
theorem kLen_sp {i : Nat} {x : Int32} (e : kLen i = some x) : i < 7 ∧ Int32.ofNat (strL.getD i 0) = x := by
  unfold kLen at e
  split at e
  · rename_i hi
    cases e
    exact ⟨hi, rfl⟩
  · cases e
theorem kAt_sp {i : Nat} {k x : Int32} (e : kAt i k = some x) : i < 7 ∧ vp_in k (strL.getD i 0) ∧ (strB.getD i []).getD k.toNatClampNeg 0 = x := by
  unfold kAt at e
  split at e
  · rename_i hi
    cases e
    exact ⟨hi.1, vp_in_iff.mpr hi.2, rfl⟩
  · cases e
