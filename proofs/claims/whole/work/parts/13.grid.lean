/-! ===== 13: new int[n][k] ===== -/
theorem vr_outer (c : ClassId) (N h0 : Nat) : ∀ i : Nat, Jvm.Free.Multi.outerC c N h0 i = arrV c N (fun j => va_rf (if j < i then some (h0 + 1 + j) else none))
  | 0 => by
    show ({ cls := c, slots := Array.replicate N .null, vm := .none } : Cell) = _
    rw [arrV_new]
    refine congrArg (arrV c N) (funext fun j => ?_)
    simp [va_rf]
  | i + 1 => by
    show (Jvm.Free.Multi.outerC c N h0 i).setSlot i (.ref (h0 + 1 + i)) = _
    rw [vr_outer c N h0 i, arrV_store]
    refine congrArg (arrV c N) (funext fun j => ?_)
    by_cases e : j = i
    · subst e
      simp [updV, va_rf]
    · by_cases h : j < i
      · simp [updV, e, h, Nat.lt_succ_of_lt h]
      · simp [updV, e, h, show ¬ j < i + 1 by omega]
section RG
variable {p : Program} {l : Launch} {e : Env} {R : Room} {s : State} {m : MethodId} {args : Array Value} {below : List Frame} {meth : Method} {c : Code} {H : Heap} {locs : List Loc} {cells slots : Nat} {Q : State → Prop}
variable {cc : ByteArray} {pc : Nat} {ls : Array Slot} {rest : List Value} {g : GD} {own : String} {nL : Nat} {Ts : List Cond} {h : PH}
theorem pg_mna {β : Type} {r : β} {N' K' index : Nat} {n k : Int32} {kf : Nat → PH → Option β} (C : CT g own cc nL Ts p s m args meth c) (hH : HS g s H locs h) (hcl : Cond.classLink own index ("[" ++ (FieldType.array .int).toString) ∈ TB) (harr : Cond.arrayClass .int ∈ TB) (hf : al2 N' K' h kf = some r) (hn : ¬ n < 0) (hk : ¬ k < 0) (hN : n.toNatClampNeg = N') (hM : k.toNatClampNeg = K') (hb1 : N' * 4 ≤ 536870912) (hb2 : K' * componentBytes .int ≤ 536870912) (hb3 : K' ≤ 536870912) (hcells : cells + (1 + N') ≤ R.cells) (hslots : slots + (N' + N' * K') ≤ R.slots) (hdg : decode cc pc = .ok (.multianewarray index 2, 4))
    (kq : ∀ (H : Heap) (a : Nat) (h1 : PH), HS g s H locs h1 → kf a h1 = some r → W p l e R s m args below meth c H locs (cells + 1 + N') (slots + N' + N' * K') Q (F0 m (pc + 4) ls (.ref (gB g + a) :: rest))) : W p l e R s m args below meth c H locs cells slots Q (F0 m pc ls (.int k :: .int n :: rest)) := by
  obtain ⟨⟨hx, hb, -, hown, hts⟩, htb, -, hkk, -⟩ := C
  subst hN
  subst hM
  intro T hT Xs
  obtain ⟨vm₁, cA, comp, -, fA, fC, hO, -, X', step⟩ := Xs.multianewarray2F hx hown (hts _ (htb _ hcl)) (over_moved (a' := args) (Vm.Alike.refl s.vm) hkk.2.2.2.1.2) (hts _ (htb _ harr)) (g := F0 m pc ls (.int k :: .int n :: rest)) rfl (by rw [hb]; exact hdg) rfl hn hk hb1 hb2 hb3 rfl rfl hcells hslots
  have hcA : cA = g.2.1 5 := Option.some.inj (fA.symm.trans (hkk.1.2 5 _ rfl).2)
  have hcI : comp = g.2.1 0 := Option.some.inj (fC.symm.trans (hkk.1.2 0 _ rfl).2)
  subst hcA
  subst hcI
  generalize hF : Jvm.Free.Multi.fill (T.setVm vm₁) (g.2.1 5) (g.2.1 0) n.toNatClampNeg k.toNatClampNeg (defaultValue .int) n.toNatClampNeg = F at X' step
  have hTh : (T.setVm vm₁).heap = H := hT
  obtain ⟨f1, f2, -, -⟩ := Jvm.Free.Multi.fill_facts (T.setVm vm₁) (g.2.1 5) (g.2.1 0) n.toNatClampNeg k.toNatClampNeg (defaultValue .int) n.toNatClampNeg
  rw [hF, hTh] at f1 f2
  have hold : ∀ x : Nat, x < H.size → F.heap[x]? = H[x]? := fun x hx => by
    have := Jvm.Free.Multi.fill_old (T.setVm vm₁) (g.2.1 5) (g.2.1 0) n.toNatClampNeg k.toNatClampNeg (defaultValue .int) (a := x) (by rw [hTh]; exact hx) n.toNatClampNeg
    rw [hF, hTh] at this
    exact this
  have hrow : ∀ j : Nat, j < n.toNatClampNeg → F.heap[H.size + 1 + j]? = some (Jvm.Free.Multi.innerC (g.2.1 0) k.toNatClampNeg (defaultValue .int)) := fun j hj => by
    have := Jvm.Free.Multi.fill_inner (T.setVm vm₁) (g.2.1 5) (g.2.1 0) n.toNatClampNeg k.toNatClampNeg (defaultValue .int) n.toNatClampNeg j hj
    rw [hF, hTh] at this
    exact this
  have hin0 : Jvm.Free.Multi.innerC (g.2.1 0) k.toNatClampNeg (defaultValue .int) = vp_cell (g.2.1 0) (k.toNatClampNeg, .inl (fun _ => 0)) := by
    rw [vp_cell_i]
    show ({ cls := g.2.1 0, slots := Array.replicate k.toNatClampNeg (Value.int 0), vm := .none } : Cell) = _
    rw [arrV_new]
  rw [vr_outer] at f2
  have hsz := hH.1.1
  have hsz' : Array.size H = gB g + h.1 := hsz
  have hcell : ∀ (b : Nat) (x : PC), (if b = h.1 then some (Sum.inr (5, n.toNatClampNeg, .inr (.inr (fun i => if i < n.toNatClampNeg then some (h.1 + 1 + i) else none)))) else if h.1 < b ∧ b ≤ h.1 + n.toNatClampNeg then some (.inr (0, k.toNatClampNeg, .inl (fun _ => 0))) else h.2 b) = some x → va_at g.1 vwCl (gB g + b, te g.2.1 (gB g) x) F.heap := by
    intro b x hb
    have hb' : (if b = h.1 then some (Sum.inr (5, n.toNatClampNeg, .inr (.inr (fun i => if i < n.toNatClampNeg then some (h.1 + 1 + i) else none)))) else if h.1 < b ∧ b ≤ h.1 + n.toNatClampNeg then some (.inr (0, k.toNatClampNeg, .inl (fun _ => 0))) else h.2 b) = some x := hb
    by_cases h1 : b = h.1
    · rw [if_pos h1] at hb'
      cases hb'
      subst h1
      show F.heap[gB g + h.1]? = some (vp_cell (g.2.1 5) (n.toNatClampNeg, .inr (.inr (.inr (.inr (fun i => (if i < n.toNatClampNeg then some (h.1 + 1 + i) else none).map (fun a => gB g + a)))))))
      rw [← hsz', f2, vp_cell_q]
      refine congrArg some (congrArg (arrV (g.2.1 5) n.toNatClampNeg) (funext fun j => ?_))
      by_cases hj : j < n.toNatClampNeg
      · rw [if_pos hj, if_pos hj]
        show Value.ref _ = Value.ref _
        refine congrArg Value.ref ?_
        show _ = gB g + (h.1 + 1 + j)
        omega
      · rw [if_neg hj, if_neg hj]
        rfl
    · rw [if_neg h1] at hb'
      by_cases h2 : h.1 < b ∧ b ≤ h.1 + n.toNatClampNeg
      · rw [if_pos h2] at hb'
        cases hb'
        show F.heap[gB g + b]? = some (vp_cell (g.2.1 0) (k.toNatClampNeg, .inl (fun _ => 0)))
        have := hrow (b - h.1 - 1) (by omega)
        rw [hin0] at this
        rw [← this]
        congr 1
        omega
      · rw [if_neg h2] at hb'
        exact (hH.1.2 b x hb').kept (hold _ (hH.1.2 b x hb').lt)
  obtain ⟨t, a1, b1⟩ := kq F.heap h.1 (h.1 + 1 + n.toNatClampNeg, fun a => if a = h.1 then some (.inr (5, n.toNatClampNeg, .inr (.inr (fun i => if i < n.toNatClampNeg then some (h.1 + 1 + i) else none)))) else if h.1 < a ∧ a ≤ h.1 + n.toNatClampNeg then some (.inr (0, k.toNatClampNeg, .inl (fun _ => 0))) else h.2 a) ⟨⟨by show Array.size F.heap = gB g + (h.1 + 1 + n.toNatClampNeg); rw [f1]; omega, hcell⟩, hH.2.grow (by rw [f1]; omega) hold⟩ hf F rfl X'
  refine ⟨t, step t ?_, b1⟩
  have e : T.heap.size = gB g + h.1 := by rw [hT]; exact hsz
  rw [e]
  exact a1
end RG
