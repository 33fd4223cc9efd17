/-! ===== 13: new int[n][k] ===== -/
section RG
variable {p : Program} {l : Launch} {e : Env} {R : Room} {s : State} {m : MethodId} {args : Array Value} {below : List Frame} {meth : Method} {c : Code} {H : Heap} {locs : List Loc} {cells slots : Nat} {Q : State → Prop}
variable {cc : ByteArray} {pc : Nat} {ls : Array Slot} {rest : List Value} {g : GD} {own : String} {nL : Nat} {Ts : List Cond} {h : PH}
theorem pg_mna {β : Type} {r : β} {N' K' index : Nat} {n k : Int32} {kf : Nat → PH → Option β} (C : CT g own cc nL Ts p s m args meth c) (hH : HS g s H locs h) (hcl : Cond.classLink own index ("[" ++ (FieldType.array .int).toString) ∈ TB) (harr : Cond.arrayClass .int ∈ TB) (hf : al2 N' K' h kf = some r) (hn : ¬ n < 0) (hk : ¬ k < 0) (hN : n.toNatClampNeg = N') (hM : k.toNatClampNeg = K') (hb1 : N' * 4 ≤ 536870912) (hb2 : K' * componentBytes .int ≤ 536870912) (hb3 : K' ≤ 536870912) (hcells : cells + (1 + N') ≤ R.cells) (hslots : slots + (N' + N' * K') ≤ R.slots) (hdg : decode cc pc = .ok (.multianewarray index 2, 4))
    (kq : ∀ (H : Heap) (a : Nat) (h1 : PH), HS g s H locs h1 → kf a h1 = some r → W p l e R s m args below meth c H locs (cells + 1 + N') (slots + N' + N' * K') Q (F0 m (pc + 4) ls (.ref (gB g + a) :: rest))) : W p l e R s m args below meth c H locs cells slots Q (F0 m pc ls (.int k :: .int n :: rest)) := by
  sorry
end RG
