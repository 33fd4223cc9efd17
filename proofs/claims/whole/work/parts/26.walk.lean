/-! ===== 26: walks (by program) ===== -/
section WK6
variable {p : Program} {l : Launch} {e : Env} {s : State} {m : MethodId} {args : Array Value} {below : List Frame} {meth : Method} {c : Code} {g : GD}
set_option maxHeartbeats 4000000 in
set_option maxRecDepth 100000 in
theorem c_X10_isSale {l : Launch} {g : GD} {h : PH} {a0 : Nat} {x1 : Int32} {r : Int32} {h' : PH} (hf : mX10_isSale h a0 x1 = some (r, h')) : Met l yX10_isSale (Cond.code yX10_isSale cX10_isSale 2 (some .boolean) :: TB) (rmD 1 0 0) (PcH g [.ref (gB g + a0), .int x1] h) (QcI g r h') 0 0 (aB g) := by
  refine Met.ofW (cc := cX10_isSale) (maxL := 2) (ret := some .boolean) (by decide) rfl ?_
  intro p e s m args below meth c s₁ B hml hv
  obtain ⟨rfl, hH0, hkk0⟩ := hv
  have C : CT g RX10 cX10_isSale 2 (Cond.code yX10_isSale cX10_isSale 2 (some .boolean) :: TB) p s m _ meth c := pg_ct (Tw := []) B hml hH0 hkk0
  have hr := B.returns
  have hH : HS g s s.heap [] h := ⟨hH0, va_S.rf⟩
  have hl := lv_entry ([.ref (gB g + a0), .int x1]) (n := 2) (Nat.le_of_ble_eq_true rfl)
  rw [lg_entry_eq]
  generalize (lg_sl ([.ref (gB g + a0), .int x1]) ++ List.replicate (2 - (lg_sl ([.ref (gB g + a0), .int x1])).length) Slot.unset).toArray = ls at hl ⊢
  have hl : lv_has ls 2 [(0, .ref (gB g + a0)), (1, .int x1)] := hl
  show W p l e (rmD 1 0 0) _ _ _ _ _ _ _ _ _ _ _ _
  unfold mX10_isSale at hf
  obtain ⟨hO, hf⟩ := oO_sp hf
  obtain ⟨⟨hx, hb, hml, hown, hts⟩, htb, hlk, hkk, hbs⟩ := id C
  refine lv_aload_n hx hb dX10_isSale_0 rfl (lv_at hl 0 rfl) ?_
  refine pg_gR C hH fl_X10_13 hf dX10_isSale_1 (fun v1 hf => ?_)
  refine lv_iconst (v := (3 : Int32)) hx hb dX10_isSale_4 (by decide) ?_
  refine pg_aI C hH hf dX10_isSale_5 (fun v5 hf => ?_)
  refine lv_iload_n hx hb dX10_isSale_6 rfl (lv_at hl 1 rfl) ?_
  refine pg_Si (As := [.int v5, .int x1]) C hH mi_X10_isIn sl_X10_278 hf (fun _ _ e1 => c_X10_isIn e1) rfl rfl hl.1 (Nat.le_of_ble_eq_true rfl) ⟨Nat.le_of_ble_eq_true rfl, Nat.le_of_ble_eq_true rfl⟩ ⟨Nat.zero_le _, Nat.zero_le _⟩ dX10_isSale_7 (fun H locs v7 h7 hH hf => ?_)
  exact pg_zret C hr hH hf dX10_isSale_10
set_option maxHeartbeats 4000000 in
set_option maxRecDepth 100000 in
theorem c_X10_of {l : Launch} {g : GD} {h : PH} {a0 : Nat} {x1 : Int32} {x2 : Int32} {r : Int32} {h' : PH} (hf : mX10_of h a0 x1 x2 = some (r, h')) : Met l yX10_of (Cond.code yX10_of cX10_of 3 (some .int) :: TB) (rmD 0 0 0) (PcH g [.ref (gB g + a0), .int x1, .int x2] h) (QcI g r h') 0 0 (aB g) := by
  refine Met.ofW (cc := cX10_of) (maxL := 3) (ret := some .int) (by decide) rfl ?_
  intro p e s m args below meth c s₁ B hml hv
  obtain ⟨rfl, hH0, hkk0⟩ := hv
  have C : CT g RX10 cX10_of 3 (Cond.code yX10_of cX10_of 3 (some .int) :: TB) p s m _ meth c := pg_ct (Tw := []) B hml hH0 hkk0
  have hr := B.returns
  have hH : HS g s s.heap [] h := ⟨hH0, va_S.rf⟩
  have hl := lv_entry ([.ref (gB g + a0), .int x1, .int x2]) (n := 3) (Nat.le_of_ble_eq_true rfl)
  rw [lg_entry_eq]
  generalize (lg_sl ([.ref (gB g + a0), .int x1, .int x2]) ++ List.replicate (3 - (lg_sl ([.ref (gB g + a0), .int x1, .int x2])).length) Slot.unset).toArray = ls at hl ⊢
  have hl : lv_has ls 3 [(0, .ref (gB g + a0)), (1, .int x1), (2, .int x2)] := hl
  show W p l e (rmD 0 0 0) _ _ _ _ _ _ _ _ _ _ _ _
  unfold mX10_of at hf
  obtain ⟨hO, hf⟩ := oO_sp hf
  obtain ⟨⟨hx, hb, hml, hown, hts⟩, htb, hlk, hkk, hbs⟩ := id C
  refine lv_aload_n hx hb dX10_of_0 rfl (lv_at hl 0 rfl) ?_
  refine pg_gR C hH fl_X10_13 hf dX10_of_1 (fun v1 hf => ?_)
  refine lv_bipush (v := (56 : Int32)) hx hb dX10_of_4 (by decide) ?_
  refine lv_bipush (v := (12 : Int32)) hx hb dX10_of_6 (by decide) ?_
  refine lv_iload_n hx hb dX10_of_8 rfl (lv_at hl 1 rfl) ?_
  refine lv_imul hx hb dX10_of_9 ?_
  refine lv_iadd hx hb dX10_of_10 ?_
  refine lv_iload_n hx hb dX10_of_11 rfl (lv_at hl 2 rfl) ?_
  refine lv_iadd hx hb dX10_of_12 ?_
  refine pg_aI C hH hf dX10_of_13 (fun v13 hf => ?_)
  exact pg_iret C hr hH hf dX10_of_14
set_option maxHeartbeats 4000000 in
set_option maxRecDepth 100000 in
theorem wX10_levelOf_b4 {r4 : PH → Nat → Int32 → Int32 → Int32 → Option (Int32 × PH)} {r : Int32} {h' : PH} (C : CT g RX10 cX10_levelOf 4 (Cond.code yX10_levelOf cX10_levelOf 4 (some .int) :: TB) p s m args meth c) (hr : meth.sig.returnType = some .int) (k4 : ∀ {h : PH} {a0 : Nat} {x1 : Int32} {x2 : Int32} {x3 : Int32} {H : Heap} {locs : List Loc} {ls : Array Slot}, HS g s H locs h → r4 h a0 x1 x2 x3 = some (r, h') → lv_has ls 4 [(0, .ref (gB g + a0)), (1, .int x1), (2, .int x2), (3, .int x3)] → W p l e (rmD 1 0 0) s m args below meth c H locs 0 0 (MQ below (QcI g r h') args s 0 0 (aB g)) (F0 m 4 ls [])) {h : PH} {a0 : Nat} {x1 : Int32} {x2 : Int32} {x3 : Int32} {H : Heap} {locs : List Loc} {ls : Array Slot} (hH : HS g s H locs h) (hf : mX10_levelOf_b4 r4 h a0 x1 x2 x3 = some (r, h')) (hl : lv_has ls 4 [(0, .ref (gB g + a0)), (1, .int x1), (2, .int x2), (3, .int x3)]) : W p l e (rmD 1 0 0) s m args below meth c H locs 0 0 (MQ below (QcI g r h') args s 0 0 (aB g)) (F0 m 4 ls []) := by
  obtain ⟨⟨hx, hb, hml, hown, hts⟩, htb, hlk, hkk, hbs⟩ := id C
  unfold mX10_levelOf_b4 at hf
  refine lv_iload_n hx hb dX10_levelOf_4 rfl (lv_at hl 3 rfl) ?_
  refine lv_aload_n hx hb dX10_levelOf_5 rfl (lv_at hl 0 rfl) ?_
  refine pg_gR C hH fl_X10_13 hf dX10_levelOf_6 (fun v6 hf => ?_)
  refine lv_iconst (v := (5 : Int32)) hx hb dX10_levelOf_9 (by decide) ?_
  refine pg_aI C hH hf dX10_levelOf_10 (fun v10 hf => ?_)
  refine lv_icmp_ge (tgt := 49) hx hb dX10_levelOf_11 (by decide) (fun cn => ?_) (fun cn => ?_)
  · have hf := (if_pos cn).symm.trans hf
    refine lv_iload_n hx hb dX10_levelOf_49 rfl (lv_at hl 2 rfl) ?_
    exact pg_iret C hr hH hf dX10_levelOf_50
  · have hf := (if_neg cn).symm.trans hf
    refine lv_aload_n hx hb dX10_levelOf_14 rfl (lv_at hl 0 rfl) ?_
    refine lv_iload_n hx hb dX10_levelOf_15 rfl (lv_at hl 1 rfl) ?_
    refine lv_iconst (v := (3 : Int32)) hx hb dX10_levelOf_16 (by decide) ?_
    refine pg_Vi (As := [.int x1, .int (3 : Int32)]) C hH mi_X10_of vl_X10_281 (q := (RX10, TX10, 34)) (ci := 10) rfl rfl hf (fun _ e1 => (oO_sp e1).1) (fun _ _ e1 => c_X10_of e1) rfl rfl hl.1 (Nat.le_of_ble_eq_true rfl) ⟨Nat.le_of_ble_eq_true rfl, Nat.le_of_ble_eq_true rfl⟩ ⟨Nat.zero_le _, Nat.zero_le _⟩ dX10_levelOf_17 (fun H locs v17 h17 hH hf => ?_)
    refine lv_aload_n hx hb dX10_levelOf_20 rfl (lv_at hl 0 rfl) ?_
    refine pg_gR C hH fl_X10_13 hf dX10_levelOf_21 (fun v21 hf => ?_)
    refine lv_sipush (v := (224 : Int32)) hx hb dX10_levelOf_24 (by decide) ?_
    refine lv_iconst (v := (2 : Int32)) hx hb dX10_levelOf_27 (by decide) ?_
    refine lv_iload_n hx hb dX10_levelOf_28 rfl (lv_at hl 3 rfl) ?_
    refine lv_imul hx hb dX10_levelOf_29 ?_
    refine lv_iadd hx hb dX10_levelOf_30 ?_
    refine pg_aI C hH hf dX10_levelOf_31 (fun v31 hf => ?_)
    refine lv_icmp_lt (tgt := 41) hx hb dX10_levelOf_32 (by decide) (fun cn => ?_) (fun cn => ?_)
    · have hf := (if_pos cn).symm.trans hf
      refine lv_iload_n hx hb dX10_levelOf_41 rfl (lv_at hl 2 rfl) ?_
      refine lv_istore_n (lv' := [(2, .int x2), (0, .ref (gB g + a0)), (1, .int x1), (3, .int x3)]) hx hb dX10_levelOf_42 rfl hl (by decide) rfl (fun ls hl => ?_)
      refine lv_iinc (v := (x3 + 1)) (lv' := [(3, .int (x3 + 1)), (2, .int x2), (0, .ref (gB g + a0)), (1, .int x1)]) hx hb dX10_levelOf_43 hl (k := 3) rfl rfl (by decide) rfl (fun ls hl => ?_)
      refine lv_goto (tgt := 4) hx hb dX10_levelOf_46 (by decide) ?_
      exact k4 hH hf (lv_sub hl [2, 3, 1, 0] rfl)
    · have hf := (if_neg cn).symm.trans hf
      refine lv_iload_n hx hb dX10_levelOf_35 rfl (lv_at hl 3 rfl) ?_
      refine lv_iconst (v := (1 : Int32)) hx hb dX10_levelOf_36 (by decide) ?_
      refine lv_iadd hx hb dX10_levelOf_37 ?_
      refine lv_goto (tgt := 42) hx hb dX10_levelOf_38 (by decide) ?_
      refine lv_istore_n (lv' := [(2, .int (x3 + (1 : Int32))), (0, .ref (gB g + a0)), (1, .int x1), (3, .int x3)]) hx hb dX10_levelOf_42 rfl hl (by decide) rfl (fun ls hl => ?_)
      refine lv_iinc (v := (x3 + 1)) (lv' := [(3, .int (x3 + 1)), (2, .int (x3 + (1 : Int32))), (0, .ref (gB g + a0)), (1, .int x1)]) hx hb dX10_levelOf_43 hl (k := 3) rfl rfl (by decide) rfl (fun ls hl => ?_)
      refine lv_goto (tgt := 4) hx hb dX10_levelOf_46 (by decide) ?_
      exact k4 hH hf (lv_sub hl [2, 3, 1, 0] rfl)
set_option maxHeartbeats 4000000 in
set_option maxRecDepth 100000 in
theorem wX10_levelOf_L4 {r : Int32} {h' : PH} (C : CT g RX10 cX10_levelOf 4 (Cond.code yX10_levelOf cX10_levelOf 4 (some .int) :: TB) p s m args meth c) (hr : meth.sig.returnType = some .int) : ∀ (n : Nat) {h : PH} {a0 : Nat} {x1 : Int32} {x2 : Int32} {x3 : Int32} {H : Heap} {locs : List Loc} {ls : Array Slot}, HS g s H locs h → mX10_levelOf_L4 n h a0 x1 x2 x3 = some (r, h') → lv_has ls 4 [(0, .ref (gB g + a0)), (1, .int x1), (2, .int x2), (3, .int x3)] → W p l e (rmD 1 0 0) s m args below meth c H locs 0 0 (MQ below (QcI g r h') args s 0 0 (aB g)) (F0 m 4 ls []) := by
  intro n
  induction n with
  | zero =>
    intro h a0 x1 x2 x3 H locs ls hH hf hl
    exact absurd hf (by intro z; cases z)
  | succ n ih =>
    intro h a0 x1 x2 x3 H locs ls hH hf hl
    have hf : mX10_levelOf_b4 (mX10_levelOf_L4 n) h a0 x1 x2 x3 = some (r, h') := hf
    exact wX10_levelOf_b4 C hr (fun a b c => ih a b c) hH hf hl
set_option maxHeartbeats 4000000 in
set_option maxRecDepth 100000 in
theorem c_X10_levelOf {l : Launch} {g : GD} {h : PH} {a0 : Nat} {x1 : Int32} {r : Int32} {h' : PH} (hf : mX10_levelOf h a0 x1 = some (r, h')) : Met l yX10_levelOf (Cond.code yX10_levelOf cX10_levelOf 4 (some .int) :: TB) (rmD 1 0 0) (PcH g [.ref (gB g + a0), .int x1] h) (QcI g r h') 0 0 (aB g) := by
  refine Met.ofW (cc := cX10_levelOf) (maxL := 4) (ret := some .int) (by decide) rfl ?_
  intro p e s m args below meth c s₁ B hml hv
  obtain ⟨rfl, hH0, hkk0⟩ := hv
  have C : CT g RX10 cX10_levelOf 4 (Cond.code yX10_levelOf cX10_levelOf 4 (some .int) :: TB) p s m _ meth c := pg_ct (Tw := []) B hml hH0 hkk0
  have hr := B.returns
  have hH : HS g s s.heap [] h := ⟨hH0, va_S.rf⟩
  have hl := lv_entry ([.ref (gB g + a0), .int x1]) (n := 4) (Nat.le_of_ble_eq_true rfl)
  rw [lg_entry_eq]
  generalize (lg_sl ([.ref (gB g + a0), .int x1]) ++ List.replicate (4 - (lg_sl ([.ref (gB g + a0), .int x1])).length) Slot.unset).toArray = ls at hl ⊢
  have hl : lv_has ls 4 [(0, .ref (gB g + a0)), (1, .int x1)] := hl
  show W p l e (rmD 1 0 0) _ _ _ _ _ _ _ _ _ _ _ _
  unfold mX10_levelOf at hf
  obtain ⟨hO, hf⟩ := oO_sp hf
  obtain ⟨⟨hx, hb, hml, hown, hts⟩, htb, hlk, hkk, hbs⟩ := id C
  refine lv_iconst (v := (0 : Int32)) hx hb dX10_levelOf_0 (by decide) ?_
  refine lv_istore_n (lv' := [(2, .int (0 : Int32)), (0, .ref (gB g + a0)), (1, .int x1)]) hx hb dX10_levelOf_1 rfl hl (by decide) rfl (fun ls hl => ?_)
  refine lv_iconst (v := (0 : Int32)) hx hb dX10_levelOf_2 (by decide) ?_
  refine lv_istore_n (lv' := [(3, .int (0 : Int32)), (2, .int (0 : Int32)), (0, .ref (gB g + a0)), (1, .int x1)]) hx hb dX10_levelOf_3 rfl hl (by decide) rfl (fun ls hl => ?_)
  exact wX10_levelOf_L4 C hr FU hH hf (lv_sub hl [2, 3, 1, 0] rfl)
set_option maxHeartbeats 4000000 in
set_option maxRecDepth 100000 in
theorem c_X10_lessOf {l : Launch} {g : GD} {h : PH} {a0 : Nat} {x1 : Int32} {r : Int32} {h' : PH} (hf : mX10_lessOf h a0 x1 = some (r, h')) : Met l yX10_lessOf (Cond.code yX10_lessOf cX10_lessOf 3 (some .int) :: TB) (rmD 2 0 0) (PcH g [.ref (gB g + a0), .int x1] h) (QcI g r h') 0 0 (aB g) := by
  refine Met.ofW (cc := cX10_lessOf) (maxL := 3) (ret := some .int) (by decide) rfl ?_
  intro p e s m args below meth c s₁ B hml hv
  obtain ⟨rfl, hH0, hkk0⟩ := hv
  have C : CT g RX10 cX10_lessOf 3 (Cond.code yX10_lessOf cX10_lessOf 3 (some .int) :: TB) p s m _ meth c := pg_ct (Tw := []) B hml hH0 hkk0
  have hr := B.returns
  have hH : HS g s s.heap [] h := ⟨hH0, va_S.rf⟩
  have hl := lv_entry ([.ref (gB g + a0), .int x1]) (n := 3) (Nat.le_of_ble_eq_true rfl)
  rw [lg_entry_eq]
  generalize (lg_sl ([.ref (gB g + a0), .int x1]) ++ List.replicate (3 - (lg_sl ([.ref (gB g + a0), .int x1])).length) Slot.unset).toArray = ls at hl ⊢
  have hl : lv_has ls 3 [(0, .ref (gB g + a0)), (1, .int x1)] := hl
  show W p l e (rmD 2 0 0) _ _ _ _ _ _ _ _ _ _ _ _
  unfold mX10_lessOf at hf
  obtain ⟨hO, hf⟩ := oO_sp hf
  obtain ⟨⟨hx, hb, hml, hown, hts⟩, htb, hlk, hkk, hbs⟩ := id C
  refine lv_aload_n hx hb dX10_lessOf_0 rfl (lv_at hl 0 rfl) ?_
  refine lv_iload_n hx hb dX10_lessOf_1 rfl (lv_at hl 1 rfl) ?_
  refine pg_Vi (As := [.int x1]) C hH mi_X10_levelOf vl_X10_285 (q := (RX10, TX10, 34)) (ci := 10) rfl rfl hf (fun _ e1 => (oO_sp e1).1) (fun _ _ e1 => c_X10_levelOf e1) rfl rfl hl.1 (Nat.le_of_ble_eq_true rfl) ⟨Nat.le_of_ble_eq_true rfl, Nat.le_of_ble_eq_true rfl⟩ ⟨Nat.zero_le _, Nat.zero_le _⟩ dX10_lessOf_2 (fun H locs v2 h2 hH hf => ?_)
  refine lv_istore_n (lv' := [(2, .int v2), (0, .ref (gB g + a0)), (1, .int x1)]) hx hb dX10_lessOf_5 rfl hl (by decide) rfl (fun ls hl => ?_)
  refine lv_iload_n hx hb dX10_lessOf_6 rfl (lv_at hl 0 rfl) ?_
  refine lv_if_ne (tgt := 14) hx hb dX10_lessOf_7 (by decide) (fun cn => ?_) (fun cn => ?_)
  · have hf := (if_neg cn).symm.trans hf
    refine lv_aload_n hx hb dX10_lessOf_14 rfl (lv_at hl 1 rfl) ?_
    refine pg_gR C hH fl_X10_13 hf dX10_lessOf_15 (fun v15 hf => ?_)
    refine lv_sipush (v := (224 : Int32)) hx hb dX10_lessOf_18 (by decide) ?_
    refine lv_iconst (v := (2 : Int32)) hx hb dX10_lessOf_21 (by decide) ?_
    refine lv_iload_n hx hb dX10_lessOf_22 rfl (lv_at hl 0 rfl) ?_
    refine lv_imul hx hb dX10_lessOf_23 ?_
    refine lv_iadd hx hb dX10_lessOf_24 ?_
    refine lv_iconst (v := (1 : Int32)) hx hb dX10_lessOf_25 (by decide) ?_
    refine lv_isub hx hb dX10_lessOf_26 ?_
    refine pg_aI C hH hf dX10_lessOf_27 (fun v27 hf => ?_)
    exact pg_iret C hr hH hf dX10_lessOf_28
  · have hf := (if_pos cn).symm.trans hf
    refine lv_iconst (v := (0 : Int32)) hx hb dX10_lessOf_10 (by decide) ?_
    refine lv_goto (tgt := 28) hx hb dX10_lessOf_11 (by decide) ?_
    exact pg_iret C hr hH hf dX10_lessOf_28
set_option maxHeartbeats 4000000 in
set_option maxRecDepth 100000 in
theorem wX10_sale_b26 {r : Int32} {h' : PH} (C : CT g RX10 cX10_sale 3 (Cond.code yX10_sale cX10_sale 3 (some .int) :: TB) p s m args meth c) (hr : meth.sig.returnType = some .int) {h : PH} {a0 : Nat} {x1 : Int32} {x2 : Int32} {s0 : Nat} {s1 : Int32} {H : Heap} {locs : List Loc} {ls : Array Slot} (hH : HS g s H locs h) (hf : mX10_sale_b26 h a0 x1 x2 s0 s1 = some (r, h')) (hl : lv_has ls 3 [(0, .ref (gB g + a0)), (1, .int x1), (2, .int x2)]) : W p l e (rmD 2 0 0) s m args below meth c H locs 0 0 (MQ below (QcI g r h') args s 0 0 (aB g)) (F0 m 26 ls [.int s1, .ref (gB g + s0)]) := by
  obtain ⟨⟨hx, hb, hml, hown, hts⟩, htb, hlk, hkk, hbs⟩ := id C
  unfold mX10_sale_b26 at hf
  refine pg_pI C hH fl_X10_1 fm_10_0 hf dX10_sale_26 (fun H locs h26 hH hf => ?_)
  refine lv_aload_n hx hb dX10_sale_29 rfl (lv_at hl 0 rfl) ?_
  refine pg_gI C hH fl_X10_1 hf dX10_sale_30 (fun v30 hf => ?_)
  refine lv_iconst (v := (1 : Int32)) hx hb dX10_sale_33 (by decide) ?_
  refine lv_icmp_ne (tgt := 39) hx hb dX10_sale_34 (by decide) (fun cn => ?_) (fun cn => ?_)
  · have hf := (if_neg cn).symm.trans hf
    refine lv_iload_n hx hb dX10_sale_39 rfl (lv_at hl 2 rfl) ?_
    refine lv_bipush (v := (12 : Int32)) hx hb dX10_sale_40 (by decide) ?_
    refine lv_icmp_ne (tgt := 53) hx hb dX10_sale_42 (by decide) (fun cn => ?_) (fun cn => ?_)
    · have hf := (if_neg cn).symm.trans hf
      refine lv_aload_n hx hb dX10_sale_53 rfl (lv_at hl 0 rfl) ?_
      refine lv_iload_n hx hb dX10_sale_54 rfl (lv_at hl 1 rfl) ?_
      refine lv_iload_n hx hb dX10_sale_55 rfl (lv_at hl 2 rfl) ?_
      refine pg_Vi (As := [.int x1, .int x2]) C hH mi_X10_of vl_X10_281 (q := (RX10, TX10, 34)) (ci := 10) rfl rfl hf (fun _ e1 => (oO_sp e1).1) (fun _ _ e1 => c_X10_of e1) rfl rfl hl.1 (Nat.le_of_ble_eq_true rfl) ⟨Nat.le_of_ble_eq_true rfl, Nat.le_of_ble_eq_true rfl⟩ ⟨Nat.zero_le _, Nat.zero_le _⟩ dX10_sale_56 (fun H locs v56 h56 hH hf => ?_)
      exact pg_iret C hr hH hf dX10_sale_59
    · have hf := (if_pos cn).symm.trans hf
      refine lv_aload_n hx hb dX10_sale_45 rfl (lv_at hl 0 rfl) ?_
      refine lv_iload_n hx hb dX10_sale_46 rfl (lv_at hl 1 rfl) ?_
      refine pg_Vi (As := [.int x1]) C hH mi_X10_levelOf vl_X10_285 (q := (RX10, TX10, 34)) (ci := 10) rfl rfl hf (fun _ e1 => (oO_sp e1).1) (fun _ _ e1 => c_X10_levelOf e1) rfl rfl hl.1 (Nat.le_of_ble_eq_true rfl) ⟨Nat.le_of_ble_eq_true rfl, Nat.le_of_ble_eq_true rfl⟩ ⟨Nat.zero_le _, Nat.zero_le _⟩ dX10_sale_47 (fun H locs v47 h47 hH hf => ?_)
      refine lv_goto (tgt := 59) hx hb dX10_sale_50 (by decide) ?_
      exact pg_iret C hr hH hf dX10_sale_59
  · have hf := (if_pos cn).symm.trans hf
    refine lv_iconst (v := (0 : Int32)) hx hb dX10_sale_37 (by decide) ?_
    exact pg_iret C hr hH hf dX10_sale_38
set_option maxHeartbeats 4000000 in
set_option maxRecDepth 100000 in
theorem wX10_sale_b25 {r : Int32} {h' : PH} (C : CT g RX10 cX10_sale 3 (Cond.code yX10_sale cX10_sale 3 (some .int) :: TB) p s m args meth c) (hr : meth.sig.returnType = some .int) {h : PH} {a0 : Nat} {x1 : Int32} {x2 : Int32} {s0 : Nat} {H : Heap} {locs : List Loc} {ls : Array Slot} (hH : HS g s H locs h) (hf : mX10_sale_b25 h a0 x1 x2 s0 = some (r, h')) (hl : lv_has ls 3 [(0, .ref (gB g + a0)), (1, .int x1), (2, .int x2)]) : W p l e (rmD 2 0 0) s m args below meth c H locs 0 0 (MQ below (QcI g r h') args s 0 0 (aB g)) (F0 m 25 ls [.ref (gB g + s0)]) := by
  obtain ⟨⟨hx, hb, hml, hown, hts⟩, htb, hlk, hkk, hbs⟩ := id C
  unfold mX10_sale_b25 at hf
  refine lv_iconst (v := (1 : Int32)) hx hb dX10_sale_25 (by decide) ?_
  exact wX10_sale_b26 C hr hH hf (lv_sub hl [0, 1, 2] rfl)
set_option maxHeartbeats 4000000 in
set_option maxRecDepth 100000 in
theorem c_X10_sale {l : Launch} {g : GD} {h : PH} {a0 : Nat} {x1 : Int32} {x2 : Int32} {r : Int32} {h' : PH} (hf : mX10_sale h a0 x1 x2 = some (r, h')) : Met l yX10_sale (Cond.code yX10_sale cX10_sale 3 (some .int) :: TB) (rmD 2 0 0) (PcH g [.ref (gB g + a0), .int x1, .int x2] h) (QcI g r h') 0 0 (aB g) := by
  refine Met.ofW (cc := cX10_sale) (maxL := 3) (ret := some .int) (by decide) rfl ?_
  intro p e s m args below meth c s₁ B hml hv
  obtain ⟨rfl, hH0, hkk0⟩ := hv
  have C : CT g RX10 cX10_sale 3 (Cond.code yX10_sale cX10_sale 3 (some .int) :: TB) p s m _ meth c := pg_ct (Tw := []) B hml hH0 hkk0
  have hr := B.returns
  have hH : HS g s s.heap [] h := ⟨hH0, va_S.rf⟩
  have hl := lv_entry ([.ref (gB g + a0), .int x1, .int x2]) (n := 3) (Nat.le_of_ble_eq_true rfl)
  rw [lg_entry_eq]
  generalize (lg_sl ([.ref (gB g + a0), .int x1, .int x2]) ++ List.replicate (3 - (lg_sl ([.ref (gB g + a0), .int x1, .int x2])).length) Slot.unset).toArray = ls at hl ⊢
  have hl : lv_has ls 3 [(0, .ref (gB g + a0)), (1, .int x1), (2, .int x2)] := hl
  show W p l e (rmD 2 0 0) _ _ _ _ _ _ _ _ _ _ _ _
  unfold mX10_sale at hf
  obtain ⟨hO, hf⟩ := oO_sp hf
  obtain ⟨⟨hx, hb, hml, hown, hts⟩, htb, hlk, hkk, hbs⟩ := id C
  refine lv_aload_n hx hb dX10_sale_0 rfl (lv_at hl 0 rfl) ?_
  refine lv_aload_n hx hb dX10_sale_1 rfl (lv_at hl 0 rfl) ?_
  refine lv_iload_n hx hb dX10_sale_2 rfl (lv_at hl 1 rfl) ?_
  refine pg_Vi (As := [.int x1]) C hH mi_X10_isSale vl_X10_288 (q := (RX10, TX10, 34)) (ci := 10) rfl rfl hf (fun _ e1 => (oO_sp e1).1) (fun _ _ e1 => c_X10_isSale e1) rfl rfl hl.1 (Nat.le_of_ble_eq_true rfl) ⟨Nat.le_of_ble_eq_true rfl, Nat.le_of_ble_eq_true rfl⟩ ⟨Nat.zero_le _, Nat.zero_le _⟩ dX10_sale_3 (fun H locs v3 h3 hH hf => ?_)
  refine lv_if_eq (tgt := 25) hx hb dX10_sale_6 (by decide) (fun cn => ?_) (fun cn => ?_)
  · have hf := (if_pos cn).symm.trans hf
    exact wX10_sale_b25 C hr hH hf (lv_sub hl [0, 1, 2] rfl)
  · have hf := (if_neg cn).symm.trans hf
    refine lv_iload_n hx hb dX10_sale_9 rfl (lv_at hl 2 rfl) ?_
    refine lv_i2l (v := (Int32.toInt64 x2)) hx hb dX10_sale_10 rfl ?_
    refine lv_lconst (v := (0 : Int64)) hx hb dX10_sale_11 (by decide) ?_
    refine lv_ldc2 (v := (12 : Int64)) hx hb hown (hts _ (htb _ kl_X10_291)) dX10_sale_12 ?_
    refine pg_Si (As := [.long (Int32.toInt64 x2), .long (0 : Int64), .long (12 : Int64)]) C hH mi_X10_within sl_X10_97 hf (fun _ _ e1 => c_X10_within e1) rfl rfl hl.1 (Nat.le_of_ble_eq_true rfl) ⟨Nat.le_of_ble_eq_true rfl, Nat.le_of_ble_eq_true rfl⟩ ⟨Nat.zero_le _, Nat.zero_le _⟩ dX10_sale_15 (fun H locs v15 h15 hH hf => ?_)
    refine lv_if_eq (tgt := 25) hx hb dX10_sale_18 (by decide) (fun cn => ?_) (fun cn => ?_)
    · have hf := (if_pos cn).symm.trans hf
      exact wX10_sale_b25 C hr hH hf (lv_sub hl [0, 1, 2] rfl)
    · have hf := (if_neg cn).symm.trans hf
      refine lv_iconst (v := (0 : Int32)) hx hb dX10_sale_21 (by decide) ?_
      refine lv_goto (tgt := 26) hx hb dX10_sale_22 (by decide) ?_
      exact wX10_sale_b26 C hr hH hf (lv_sub hl [0, 1, 2] rfl)
set_option maxHeartbeats 4000000 in
set_option maxRecDepth 100000 in
theorem c_X10_resold {l : Launch} {g : GD} {h : PH} {a0 : Nat} {x1 : Int32} {x2 : Int32} {r : Int32} {h' : PH} (hf : mX10_resold h a0 x1 x2 = some (r, h')) : Met l yX10_resold (Cond.code yX10_resold cX10_resold 3 (some .int) :: TB) (rmD 1 0 0) (PcH g [.ref (gB g + a0), .int x1, .int x2] h) (QcI g r h') 0 0 (aB g) := by
  refine Met.ofW (cc := cX10_resold) (maxL := 3) (ret := some .int) (by decide) rfl ?_
  intro p e s m args below meth c s₁ B hml hv
  obtain ⟨rfl, hH0, hkk0⟩ := hv
  have C : CT g RX10 cX10_resold 3 (Cond.code yX10_resold cX10_resold 3 (some .int) :: TB) p s m _ meth c := pg_ct (Tw := []) B hml hH0 hkk0
  have hr := B.returns
  have hH : HS g s s.heap [] h := ⟨hH0, va_S.rf⟩
  have hl := lv_entry ([.ref (gB g + a0), .int x1, .int x2]) (n := 3) (Nat.le_of_ble_eq_true rfl)
  rw [lg_entry_eq]
  generalize (lg_sl ([.ref (gB g + a0), .int x1, .int x2]) ++ List.replicate (3 - (lg_sl ([.ref (gB g + a0), .int x1, .int x2])).length) Slot.unset).toArray = ls at hl ⊢
  have hl : lv_has ls 3 [(0, .ref (gB g + a0)), (1, .int x1), (2, .int x2)] := hl
  show W p l e (rmD 1 0 0) _ _ _ _ _ _ _ _ _ _ _ _
  unfold mX10_resold at hf
  obtain ⟨hO, hf⟩ := oO_sp hf
  obtain ⟨⟨hx, hb, hml, hown, hts⟩, htb, hlk, hkk, hbs⟩ := id C
  refine lv_aload_n hx hb dX10_resold_0 rfl (lv_at hl 0 rfl) ?_
  refine lv_iconst (v := (0 : Int32)) hx hb dX10_resold_1 (by decide) ?_
  refine pg_pI C hH fl_X10_1 fm_10_0 hf dX10_resold_2 (fun H locs h2 hH hf => ?_)
  refine lv_aload_n hx hb dX10_resold_5 rfl (lv_at hl 0 rfl) ?_
  refine pg_gR C hH fl_X10_13 hf dX10_resold_6 (fun v6 hf => ?_)
  refine lv_iconst (v := (4 : Int32)) hx hb dX10_resold_9 (by decide) ?_
  refine pg_aI C hH hf dX10_resold_10 (fun v10 hf => ?_)
  refine lv_iload_n hx hb dX10_resold_11 rfl (lv_at hl 1 rfl) ?_
  refine pg_Si (As := [.int v10, .int x1]) C hH mi_X10_isIn sl_X10_278 hf (fun _ _ e1 => c_X10_isIn e1) rfl rfl hl.1 (Nat.le_of_ble_eq_true rfl) ⟨Nat.le_of_ble_eq_true rfl, Nat.le_of_ble_eq_true rfl⟩ ⟨Nat.zero_le _, Nat.zero_le _⟩ dX10_resold_12 (fun H locs v12 h12 hH hf => ?_)
  refine lv_if_eq (tgt := 47) hx hb dX10_resold_15 (by decide) (fun cn => ?_) (fun cn => ?_)
  · have hf := (if_pos cn).symm.trans hf
    refine lv_iconst (v := (-1 : Int32)) hx hb dX10_resold_47 (by decide) ?_
    exact pg_iret C hr hH hf dX10_resold_48
  · have hf := (if_neg cn).symm.trans hf
    refine lv_iload_n hx hb dX10_resold_18 rfl (lv_at hl 2 rfl) ?_
    refine lv_i2l (v := (Int32.toInt64 x2)) hx hb dX10_resold_19 rfl ?_
    refine lv_lconst (v := (0 : Int64)) hx hb dX10_resold_20 (by decide) ?_
    refine lv_ldc2 (v := (3 : Int64)) hx hb hown (hts _ (htb _ kl_X10_293)) dX10_resold_21 ?_
    refine pg_Si (As := [.long (Int32.toInt64 x2), .long (0 : Int64), .long (3 : Int64)]) C hH mi_X10_within sl_X10_97 hf (fun _ _ e1 => c_X10_within e1) rfl rfl hl.1 (Nat.le_of_ble_eq_true rfl) ⟨Nat.le_of_ble_eq_true rfl, Nat.le_of_ble_eq_true rfl⟩ ⟨Nat.zero_le _, Nat.zero_le _⟩ dX10_resold_24 (fun H locs v24 h24 hH hf => ?_)
    refine lv_if_eq (tgt := 47) hx hb dX10_resold_27 (by decide) (fun cn => ?_) (fun cn => ?_)
    · have hf := (if_pos cn).symm.trans hf
      refine lv_iconst (v := (-1 : Int32)) hx hb dX10_resold_47 (by decide) ?_
      exact pg_iret C hr hH hf dX10_resold_48
    · have hf := (if_neg cn).symm.trans hf
      refine lv_aload_n hx hb dX10_resold_30 rfl (lv_at hl 0 rfl) ?_
      refine pg_gR C hH fl_X10_13 hf dX10_resold_31 (fun v31 hf => ?_)
      refine lv_sipush (v := (176 : Int32)) hx hb dX10_resold_34 (by decide) ?_
      refine lv_iconst (v := (4 : Int32)) hx hb dX10_resold_37 (by decide) ?_
      refine lv_iload_n hx hb dX10_resold_38 rfl (lv_at hl 1 rfl) ?_
      refine lv_imul hx hb dX10_resold_39 ?_
      refine lv_iadd hx hb dX10_resold_40 ?_
      refine lv_iload_n hx hb dX10_resold_41 rfl (lv_at hl 2 rfl) ?_
      refine lv_iadd hx hb dX10_resold_42 ?_
      refine pg_aI C hH hf dX10_resold_43 (fun v43 hf => ?_)
      refine lv_goto (tgt := 48) hx hb dX10_resold_44 (by decide) ?_
      exact pg_iret C hr hH hf dX10_resold_48
set_option maxHeartbeats 4000000 in
set_option maxRecDepth 100000 in
theorem wX10_areKin_b17 {r7 : PH → Nat → Int32 → Int32 → Int32 → Option (Int32 × PH)} {r17 : PH → Nat → Int32 → Int32 → Int32 → Int32 → Option (Int32 × PH)} {r : Int32} {h' : PH} (C : CT g RX10 cX10_areKin 7 (Cond.code yX10_areKin cX10_areKin 7 (some .boolean) :: TB) p s m args meth c) (hr : meth.sig.returnType = some .boolean) (k7 : ∀ {h : PH} {a0 : Nat} {x2 : Int32} {x3 : Int32} {x4 : Int32} {H : Heap} {locs : List Loc} {ls : Array Slot}, HS g s H locs h → r7 h a0 x2 x3 x4 = some (r, h') → lv_has ls 7 [(0, .ref (gB g + a0)), (2, .int x2), (3, .int x3), (4, .int x4)] → W p l e (rmD 1 0 0) s m args below meth c H locs 0 0 (MQ below (QcI g r h') args s 0 0 (aB g)) (F0 m 7 ls [])) (k17 : ∀ {h : PH} {a0 : Nat} {x2 : Int32} {x3 : Int32} {x4 : Int32} {x5 : Int32} {H : Heap} {locs : List Loc} {ls : Array Slot}, HS g s H locs h → r17 h a0 x2 x3 x4 x5 = some (r, h') → lv_has ls 7 [(0, .ref (gB g + a0)), (2, .int x2), (3, .int x3), (4, .int x4), (5, .int x5)] → W p l e (rmD 1 0 0) s m args below meth c H locs 0 0 (MQ below (QcI g r h') args s 0 0 (aB g)) (F0 m 17 ls [])) {h : PH} {a0 : Nat} {x2 : Int32} {x3 : Int32} {x4 : Int32} {x5 : Int32} {H : Heap} {locs : List Loc} {ls : Array Slot} (hH : HS g s H locs h) (hf : mX10_areKin_b17 r7 r17 h a0 x2 x3 x4 x5 = some (r, h')) (hl : lv_has ls 7 [(0, .ref (gB g + a0)), (2, .int x2), (3, .int x3), (4, .int x4), (5, .int x5)]) : W p l e (rmD 1 0 0) s m args below meth c H locs 0 0 (MQ below (QcI g r h') args s 0 0 (aB g)) (F0 m 17 ls []) := by
  obtain ⟨⟨hx, hb, hml, hown, hts⟩, htb, hlk, hkk, hbs⟩ := id C
  unfold mX10_areKin_b17 at hf
  refine lv_iload hx hb dX10_areKin_17 (lv_at hl 4 rfl) ?_
  refine lv_aload_n hx hb dX10_areKin_19 rfl (lv_at hl 0 rfl) ?_
  refine pg_gR C hH fl_X10_13 hf dX10_areKin_20 (fun v20 hf => ?_)
  refine lv_bipush (v := (11 : Int32)) hx hb dX10_areKin_23 (by decide) ?_
  refine pg_aI C hH hf dX10_areKin_25 (fun v25 hf => ?_)
  refine lv_icmp_ge (tgt := 84) hx hb dX10_areKin_26 (by decide) (fun cn => ?_) (fun cn => ?_)
  · have hf := (if_pos cn).symm.trans hf
    refine lv_iinc (v := (x4 + 1)) (lv' := [(4, .int (x4 + 1)), (0, .ref (gB g + a0)), (2, .int x2), (3, .int x3), (5, .int x5)]) hx hb dX10_areKin_84 hl (k := 3) rfl rfl (by decide) rfl (fun ls hl => ?_)
    refine lv_goto (tgt := 7) hx hb dX10_areKin_87 (by decide) ?_
    exact k7 hH hf (lv_sub hl [1, 2, 3, 0] rfl)
  · have hf := (if_neg cn).symm.trans hf
    refine lv_iconst (v := (1 : Int32)) hx hb dX10_areKin_29 (by decide) ?_
    refine lv_aload_n hx hb dX10_areKin_30 rfl (lv_at hl 0 rfl) ?_
    refine pg_gR C hH fl_X10_13 hf dX10_areKin_31 (fun v31 hf => ?_)
    refine lv_bipush (v := (12 : Int32)) hx hb dX10_areKin_34 (by decide) ?_
    refine lv_iconst (v := (2 : Int32)) hx hb dX10_areKin_36 (by decide) ?_
    refine lv_iload hx hb dX10_areKin_37 (lv_at hl 4 rfl) ?_
    refine lv_imul hx hb dX10_areKin_39 ?_
    refine lv_iadd hx hb dX10_areKin_40 ?_
    refine pg_aI C hH hf dX10_areKin_41 (fun v41 hf => ?_)
    refine lv_ishl hx hb dX10_areKin_42 ?_
    refine lv_iconst (v := (1 : Int32)) hx hb dX10_areKin_43 (by decide) ?_
    refine lv_aload_n hx hb dX10_areKin_44 rfl (lv_at hl 0 rfl) ?_
    refine pg_gR C hH fl_X10_13 hf dX10_areKin_45 (fun v45 hf => ?_)
    refine lv_bipush (v := (12 : Int32)) hx hb dX10_areKin_48 (by decide) ?_
    refine lv_iconst (v := (2 : Int32)) hx hb dX10_areKin_50 (by decide) ?_
    refine lv_iload hx hb dX10_areKin_51 (lv_at hl 4 rfl) ?_
    refine lv_imul hx hb dX10_areKin_53 ?_
    refine lv_iadd hx hb dX10_areKin_54 ?_
    refine lv_iconst (v := (1 : Int32)) hx hb dX10_areKin_55 (by decide) ?_
    refine lv_iadd hx hb dX10_areKin_56 ?_
    refine pg_aI C hH hf dX10_areKin_57 (fun v57 hf => ?_)
    refine lv_ishl hx hb dX10_areKin_58 ?_
    refine lv_ior hx hb dX10_areKin_59 ?_
    refine lv_istore (lv' := [(6, .int (((1 : Int32) <<< (v41 &&& 31)) ||| ((1 : Int32) <<< (v57 &&& 31)))), (0, .ref (gB g + a0)), (2, .int x2), (3, .int x3), (4, .int x4), (5, .int x5)]) hx hb dX10_areKin_60 hl (by decide) rfl (fun ls hl => ?_)
    refine lv_iload_n hx hb dX10_areKin_62 rfl (lv_at hl 3 rfl) ?_
    refine lv_iload_n hx hb dX10_areKin_63 rfl (lv_at hl 3 rfl) ?_
    refine lv_iload hx hb dX10_areKin_64 (lv_at hl 0 rfl) ?_
    refine lv_iand hx hb dX10_areKin_66 ?_
    refine lv_if_eq (tgt := 75) hx hb dX10_areKin_67 (by decide) (fun cn => ?_) (fun cn => ?_)
    · have hf := (if_pos cn).symm.trans hf
      refine lv_iconst (v := (0 : Int32)) hx hb dX10_areKin_75 (by decide) ?_
      refine lv_ior hx hb dX10_areKin_76 ?_
      refine lv_istore_n (lv' := [(3, .int (x3 ||| (0 : Int32))), (6, .int (((1 : Int32) <<< (v41 &&& 31)) ||| ((1 : Int32) <<< (v57 &&& 31)))), (0, .ref (gB g + a0)), (2, .int x2), (4, .int x4), (5, .int x5)]) hx hb dX10_areKin_77 rfl hl (by decide) rfl (fun ls hl => ?_)
      refine lv_iinc (v := (x5 + 1)) (lv' := [(5, .int (x5 + 1)), (3, .int (x3 ||| (0 : Int32))), (6, .int (((1 : Int32) <<< (v41 &&& 31)) ||| ((1 : Int32) <<< (v57 &&& 31)))), (0, .ref (gB g + a0)), (2, .int x2), (4, .int x4)]) hx hb dX10_areKin_78 hl (k := 5) rfl rfl (by decide) rfl (fun ls hl => ?_)
      refine lv_goto (tgt := 17) hx hb dX10_areKin_81 (by decide) ?_
      exact k17 hH hf (lv_sub hl [3, 4, 1, 5, 0] rfl)
    · have hf := (if_neg cn).symm.trans hf
      refine lv_iload hx hb dX10_areKin_70 (lv_at hl 0 rfl) ?_
      refine lv_goto (tgt := 76) hx hb dX10_areKin_72 (by decide) ?_
      refine lv_ior hx hb dX10_areKin_76 ?_
      refine lv_istore_n (lv' := [(3, .int (x3 ||| (((1 : Int32) <<< (v41 &&& 31)) ||| ((1 : Int32) <<< (v57 &&& 31))))), (6, .int (((1 : Int32) <<< (v41 &&& 31)) ||| ((1 : Int32) <<< (v57 &&& 31)))), (0, .ref (gB g + a0)), (2, .int x2), (4, .int x4), (5, .int x5)]) hx hb dX10_areKin_77 rfl hl (by decide) rfl (fun ls hl => ?_)
      refine lv_iinc (v := (x5 + 1)) (lv' := [(5, .int (x5 + 1)), (3, .int (x3 ||| (((1 : Int32) <<< (v41 &&& 31)) ||| ((1 : Int32) <<< (v57 &&& 31))))), (6, .int (((1 : Int32) <<< (v41 &&& 31)) ||| ((1 : Int32) <<< (v57 &&& 31)))), (0, .ref (gB g + a0)), (2, .int x2), (4, .int x4)]) hx hb dX10_areKin_78 hl (k := 5) rfl rfl (by decide) rfl (fun ls hl => ?_)
      refine lv_goto (tgt := 17) hx hb dX10_areKin_81 (by decide) ?_
      exact k17 hH hf (lv_sub hl [3, 4, 1, 5, 0] rfl)
set_option maxHeartbeats 4000000 in
set_option maxRecDepth 100000 in
theorem wX10_areKin_L17 {r7 : PH → Nat → Int32 → Int32 → Int32 → Option (Int32 × PH)} {r : Int32} {h' : PH} (C : CT g RX10 cX10_areKin 7 (Cond.code yX10_areKin cX10_areKin 7 (some .boolean) :: TB) p s m args meth c) (hr : meth.sig.returnType = some .boolean) (k7 : ∀ {h : PH} {a0 : Nat} {x2 : Int32} {x3 : Int32} {x4 : Int32} {H : Heap} {locs : List Loc} {ls : Array Slot}, HS g s H locs h → r7 h a0 x2 x3 x4 = some (r, h') → lv_has ls 7 [(0, .ref (gB g + a0)), (2, .int x2), (3, .int x3), (4, .int x4)] → W p l e (rmD 1 0 0) s m args below meth c H locs 0 0 (MQ below (QcI g r h') args s 0 0 (aB g)) (F0 m 7 ls [])) : ∀ (n : Nat) {h : PH} {a0 : Nat} {x2 : Int32} {x3 : Int32} {x4 : Int32} {x5 : Int32} {H : Heap} {locs : List Loc} {ls : Array Slot}, HS g s H locs h → mX10_areKin_L17 r7 n h a0 x2 x3 x4 x5 = some (r, h') → lv_has ls 7 [(0, .ref (gB g + a0)), (2, .int x2), (3, .int x3), (4, .int x4), (5, .int x5)] → W p l e (rmD 1 0 0) s m args below meth c H locs 0 0 (MQ below (QcI g r h') args s 0 0 (aB g)) (F0 m 17 ls []) := by
  intro n
  induction n with
  | zero =>
    intro h a0 x2 x3 x4 x5 H locs ls hH hf hl
    exact absurd hf (by intro z; cases z)
  | succ n ih =>
    intro h a0 x2 x3 x4 x5 H locs ls hH hf hl
    have hf : mX10_areKin_b17 r7 (mX10_areKin_L17 r7 n) h a0 x2 x3 x4 x5 = some (r, h') := hf
    exact wX10_areKin_b17 C hr k7 (fun a b c => ih a b c) hH hf hl
set_option maxHeartbeats 4000000 in
set_option maxRecDepth 100000 in
theorem wX10_areKin_b7 {r7 : PH → Nat → Int32 → Int32 → Int32 → Option (Int32 × PH)} {r : Int32} {h' : PH} (C : CT g RX10 cX10_areKin 7 (Cond.code yX10_areKin cX10_areKin 7 (some .boolean) :: TB) p s m args meth c) (hr : meth.sig.returnType = some .boolean) (k7 : ∀ {h : PH} {a0 : Nat} {x2 : Int32} {x3 : Int32} {x4 : Int32} {H : Heap} {locs : List Loc} {ls : Array Slot}, HS g s H locs h → r7 h a0 x2 x3 x4 = some (r, h') → lv_has ls 7 [(0, .ref (gB g + a0)), (2, .int x2), (3, .int x3), (4, .int x4)] → W p l e (rmD 1 0 0) s m args below meth c H locs 0 0 (MQ below (QcI g r h') args s 0 0 (aB g)) (F0 m 7 ls [])) {h : PH} {a0 : Nat} {x2 : Int32} {x3 : Int32} {x4 : Int32} {H : Heap} {locs : List Loc} {ls : Array Slot} (hH : HS g s H locs h) (hf : mX10_areKin_b7 r7 h a0 x2 x3 x4 = some (r, h')) (hl : lv_has ls 7 [(0, .ref (gB g + a0)), (2, .int x2), (3, .int x3), (4, .int x4)]) : W p l e (rmD 1 0 0) s m args below meth c H locs 0 0 (MQ below (QcI g r h') args s 0 0 (aB g)) (F0 m 7 ls []) := by
  obtain ⟨⟨hx, hb, hml, hown, hts⟩, htb, hlk, hkk, hbs⟩ := id C
  unfold mX10_areKin_b7 at hf
  refine lv_iload hx hb dX10_areKin_7 (lv_at hl 3 rfl) ?_
  refine lv_bipush (v := (6 : Int32)) hx hb dX10_areKin_9 (by decide) ?_
  refine lv_icmp_ge (tgt := 90) hx hb dX10_areKin_11 (by decide) (fun cn => ?_) (fun cn => ?_)
  · have hf := (if_pos cn).symm.trans hf
    refine lv_iload_n hx hb dX10_areKin_90 rfl (lv_at hl 2 rfl) ?_
    refine lv_iload_n hx hb dX10_areKin_91 rfl (lv_at hl 1 rfl) ?_
    refine pg_Si (As := [.int x3, .int x2]) C hH mi_X10_has sl_X10_217 hf (fun _ _ e1 => c_X10_has e1) rfl rfl hl.1 (Nat.le_of_ble_eq_true rfl) ⟨Nat.le_of_ble_eq_true rfl, Nat.le_of_ble_eq_true rfl⟩ ⟨Nat.zero_le _, Nat.zero_le _⟩ dX10_areKin_92 (fun H locs v92 h92 hH hf => ?_)
    exact pg_zret C hr hH hf dX10_areKin_95
  · have hf := (if_neg cn).symm.trans hf
    refine lv_iconst (v := (0 : Int32)) hx hb dX10_areKin_14 (by decide) ?_
    refine lv_istore (lv' := [(5, .int (0 : Int32)), (0, .ref (gB g + a0)), (2, .int x2), (3, .int x3), (4, .int x4)]) hx hb dX10_areKin_15 hl (by decide) rfl (fun ls hl => ?_)
    exact wX10_areKin_L17 C hr k7 FU hH hf (lv_sub hl [1, 2, 3, 4, 0] rfl)
set_option maxHeartbeats 4000000 in
set_option maxRecDepth 100000 in
theorem wX10_areKin_L7 {r : Int32} {h' : PH} (C : CT g RX10 cX10_areKin 7 (Cond.code yX10_areKin cX10_areKin 7 (some .boolean) :: TB) p s m args meth c) (hr : meth.sig.returnType = some .boolean) : ∀ (n : Nat) {h : PH} {a0 : Nat} {x2 : Int32} {x3 : Int32} {x4 : Int32} {H : Heap} {locs : List Loc} {ls : Array Slot}, HS g s H locs h → mX10_areKin_L7 n h a0 x2 x3 x4 = some (r, h') → lv_has ls 7 [(0, .ref (gB g + a0)), (2, .int x2), (3, .int x3), (4, .int x4)] → W p l e (rmD 1 0 0) s m args below meth c H locs 0 0 (MQ below (QcI g r h') args s 0 0 (aB g)) (F0 m 7 ls []) := by
  intro n
  induction n with
  | zero =>
    intro h a0 x2 x3 x4 H locs ls hH hf hl
    exact absurd hf (by intro z; cases z)
  | succ n ih =>
    intro h a0 x2 x3 x4 H locs ls hH hf hl
    have hf : mX10_areKin_b7 (mX10_areKin_L7 n) h a0 x2 x3 x4 = some (r, h') := hf
    exact wX10_areKin_b7 C hr (fun a b c => ih a b c) hH hf hl
set_option maxHeartbeats 4000000 in
set_option maxRecDepth 100000 in
theorem c_X10_areKin {l : Launch} {g : GD} {h : PH} {a0 : Nat} {x1 : Int32} {x2 : Int32} {r : Int32} {h' : PH} (hf : mX10_areKin h a0 x1 x2 = some (r, h')) : Met l yX10_areKin (Cond.code yX10_areKin cX10_areKin 7 (some .boolean) :: TB) (rmD 1 0 0) (PcH g [.ref (gB g + a0), .int x1, .int x2] h) (QcI g r h') 0 0 (aB g) := by
  refine Met.ofW (cc := cX10_areKin) (maxL := 7) (ret := some .boolean) (by decide) rfl ?_
  intro p e s m args below meth c s₁ B hml hv
  obtain ⟨rfl, hH0, hkk0⟩ := hv
  have C : CT g RX10 cX10_areKin 7 (Cond.code yX10_areKin cX10_areKin 7 (some .boolean) :: TB) p s m _ meth c := pg_ct (Tw := []) B hml hH0 hkk0
  have hr := B.returns
  have hH : HS g s s.heap [] h := ⟨hH0, va_S.rf⟩
  have hl := lv_entry ([.ref (gB g + a0), .int x1, .int x2]) (n := 7) (Nat.le_of_ble_eq_true rfl)
  rw [lg_entry_eq]
  generalize (lg_sl ([.ref (gB g + a0), .int x1, .int x2]) ++ List.replicate (7 - (lg_sl ([.ref (gB g + a0), .int x1, .int x2])).length) Slot.unset).toArray = ls at hl ⊢
  have hl : lv_has ls 7 [(0, .ref (gB g + a0)), (1, .int x1), (2, .int x2)] := hl
  show W p l e (rmD 1 0 0) _ _ _ _ _ _ _ _ _ _ _ _
  unfold mX10_areKin at hf
  obtain ⟨hO, hf⟩ := oO_sp hf
  obtain ⟨⟨hx, hb, hml, hown, hts⟩, htb, hlk, hkk, hbs⟩ := id C
  refine lv_iconst (v := (1 : Int32)) hx hb dX10_areKin_0 (by decide) ?_
  refine lv_iload_n hx hb dX10_areKin_1 rfl (lv_at hl 1 rfl) ?_
  refine lv_ishl hx hb dX10_areKin_2 ?_
  refine lv_istore_n (lv' := [(3, .int ((1 : Int32) <<< (x1 &&& 31))), (0, .ref (gB g + a0)), (1, .int x1), (2, .int x2)]) hx hb dX10_areKin_3 rfl hl (by decide) rfl (fun ls hl => ?_)
  refine lv_iconst (v := (0 : Int32)) hx hb dX10_areKin_4 (by decide) ?_
  refine lv_istore (lv' := [(4, .int (0 : Int32)), (3, .int ((1 : Int32) <<< (x1 &&& 31))), (0, .ref (gB g + a0)), (1, .int x1), (2, .int x2)]) hx hb dX10_areKin_5 hl (by decide) rfl (fun ls hl => ?_)
  exact wX10_areKin_L7 C hr FU hH hf (lv_sub hl [2, 4, 1, 0] rfl)
set_option maxHeartbeats 4000000 in
set_option maxRecDepth 100000 in
theorem wX10_kin_b31 {r : Int32} {h' : PH} (C : CT g RX10 cX10_kin 3 (Cond.code yX10_kin cX10_kin 3 (some .int) :: TB) p s m args meth c) (hr : meth.sig.returnType = some .int) {h : PH} {H : Heap} {locs : List Loc} {ls : Array Slot} (hH : HS g s H locs h) (hf : mX10_kin_b31 h = some (r, h')) (hl : lv_has ls 3 []) : W p l e (rmD 2 0 0) s m args below meth c H locs 0 0 (MQ below (QcI g r h') args s 0 0 (aB g)) (F0 m 31 ls []) := by
  obtain ⟨⟨hx, hb, hml, hown, hts⟩, htb, hlk, hkk, hbs⟩ := id C
  unfold mX10_kin_b31 at hf
  refine lv_iconst (v := (-1 : Int32)) hx hb dX10_kin_31 (by decide) ?_
  refine lv_goto (tgt := 49) hx hb dX10_kin_32 (by decide) ?_
  exact pg_iret C hr hH hf dX10_kin_49
set_option maxHeartbeats 4000000 in
set_option maxRecDepth 100000 in
theorem c_X10_kin {l : Launch} {g : GD} {h : PH} {a0 : Nat} {x1 : Int32} {x2 : Int32} {r : Int32} {h' : PH} (hf : mX10_kin h a0 x1 x2 = some (r, h')) : Met l yX10_kin (Cond.code yX10_kin cX10_kin 3 (some .int) :: TB) (rmD 2 0 0) (PcH g [.ref (gB g + a0), .int x1, .int x2] h) (QcI g r h') 0 0 (aB g) := by
  refine Met.ofW (cc := cX10_kin) (maxL := 3) (ret := some .int) (by decide) rfl ?_
  intro p e s m args below meth c s₁ B hml hv
  obtain ⟨rfl, hH0, hkk0⟩ := hv
  have C : CT g RX10 cX10_kin 3 (Cond.code yX10_kin cX10_kin 3 (some .int) :: TB) p s m _ meth c := pg_ct (Tw := []) B hml hH0 hkk0
  have hr := B.returns
  have hH : HS g s s.heap [] h := ⟨hH0, va_S.rf⟩
  have hl := lv_entry ([.ref (gB g + a0), .int x1, .int x2]) (n := 3) (Nat.le_of_ble_eq_true rfl)
  rw [lg_entry_eq]
  generalize (lg_sl ([.ref (gB g + a0), .int x1, .int x2]) ++ List.replicate (3 - (lg_sl ([.ref (gB g + a0), .int x1, .int x2])).length) Slot.unset).toArray = ls at hl ⊢
  have hl : lv_has ls 3 [(0, .ref (gB g + a0)), (1, .int x1), (2, .int x2)] := hl
  show W p l e (rmD 2 0 0) _ _ _ _ _ _ _ _ _ _ _ _
  unfold mX10_kin at hf
  obtain ⟨hO, hf⟩ := oO_sp hf
  obtain ⟨⟨hx, hb, hml, hown, hts⟩, htb, hlk, hkk, hbs⟩ := id C
  refine lv_aload_n hx hb dX10_kin_0 rfl (lv_at hl 0 rfl) ?_
  refine lv_iconst (v := (0 : Int32)) hx hb dX10_kin_1 (by decide) ?_
  refine pg_pI C hH fl_X10_1 fm_10_0 hf dX10_kin_2 (fun H locs h2 hH hf => ?_)
  refine lv_aload_n hx hb dX10_kin_5 rfl (lv_at hl 0 rfl) ?_
  refine pg_gR C hH fl_X10_13 hf dX10_kin_6 (fun v6 hf => ?_)
  refine lv_iconst (v := (0 : Int32)) hx hb dX10_kin_9 (by decide) ?_
  refine pg_aI C hH hf dX10_kin_10 (fun v10 hf => ?_)
  refine lv_iload_n hx hb dX10_kin_11 rfl (lv_at hl 1 rfl) ?_
  refine pg_Si (As := [.int v10, .int x1]) C hH mi_X10_isIn sl_X10_278 hf (fun _ _ e1 => c_X10_isIn e1) rfl rfl hl.1 (Nat.le_of_ble_eq_true rfl) ⟨Nat.le_of_ble_eq_true rfl, Nat.le_of_ble_eq_true rfl⟩ ⟨Nat.zero_le _, Nat.zero_le _⟩ dX10_kin_12 (fun H locs v12 h12 hH hf => ?_)
  refine lv_if_eq (tgt := 31) hx hb dX10_kin_15 (by decide) (fun cn => ?_) (fun cn => ?_)
  · have hf := (if_pos cn).symm.trans hf
    exact wX10_kin_b31 C hr hH hf (lv_sub hl [] rfl)
  · have hf := (if_neg cn).symm.trans hf
    refine lv_aload_n hx hb dX10_kin_18 rfl (lv_at hl 0 rfl) ?_
    refine pg_gR C hH fl_X10_13 hf dX10_kin_19 (fun v19 hf => ?_)
    refine lv_iconst (v := (0 : Int32)) hx hb dX10_kin_22 (by decide) ?_
    refine pg_aI C hH hf dX10_kin_23 (fun v23 hf => ?_)
    refine lv_iload_n hx hb dX10_kin_24 rfl (lv_at hl 2 rfl) ?_
    refine pg_Si (As := [.int v23, .int x2]) C hH mi_X10_isIn sl_X10_278 hf (fun _ _ e1 => c_X10_isIn e1) rfl rfl hl.1 (Nat.le_of_ble_eq_true rfl) ⟨Nat.le_of_ble_eq_true rfl, Nat.le_of_ble_eq_true rfl⟩ ⟨Nat.zero_le _, Nat.zero_le _⟩ dX10_kin_25 (fun H locs v25 h25 hH hf => ?_)
    refine lv_if_ne (tgt := 35) hx hb dX10_kin_28 (by decide) (fun cn => ?_) (fun cn => ?_)
    · have hf := (if_neg cn).symm.trans hf
      refine lv_aload_n hx hb dX10_kin_35 rfl (lv_at hl 0 rfl) ?_
      refine lv_iload_n hx hb dX10_kin_36 rfl (lv_at hl 1 rfl) ?_
      refine lv_iload_n hx hb dX10_kin_37 rfl (lv_at hl 2 rfl) ?_
      refine pg_Vi (As := [.int x1, .int x2]) C hH mi_X10_areKin vl_X10_295 (q := (RX10, TX10, 34)) (ci := 10) rfl rfl hf (fun _ e1 => (oO_sp e1).1) (fun _ _ e1 => c_X10_areKin e1) rfl rfl hl.1 (Nat.le_of_ble_eq_true rfl) ⟨Nat.le_of_ble_eq_true rfl, Nat.le_of_ble_eq_true rfl⟩ ⟨Nat.zero_le _, Nat.zero_le _⟩ dX10_kin_38 (fun H locs v38 h38 hH hf => ?_)
      refine lv_if_eq (tgt := 48) hx hb dX10_kin_41 (by decide) (fun cn => ?_) (fun cn => ?_)
      · have hf := (if_pos cn).symm.trans hf
        refine lv_iconst (v := (0 : Int32)) hx hb dX10_kin_48 (by decide) ?_
        exact pg_iret C hr hH hf dX10_kin_49
      · have hf := (if_neg cn).symm.trans hf
        refine lv_iconst (v := (1 : Int32)) hx hb dX10_kin_44 (by decide) ?_
        refine lv_goto (tgt := 49) hx hb dX10_kin_45 (by decide) ?_
        exact pg_iret C hr hH hf dX10_kin_49
    · have hf := (if_pos cn).symm.trans hf
      exact wX10_kin_b31 C hr hH hf (lv_sub hl [] rfl)
set_option maxHeartbeats 4000000 in
set_option maxRecDepth 100000 in
theorem c_X10_good {l : Launch} {g : GD} {h : PH} {a0 : Nat} {x1 : Int32} {x2 : Int32} {r : Int32} {h' : PH} (hf : mX10_good h a0 x1 x2 = some (r, h')) : Met l yX10_good (Cond.code yX10_good cX10_good 3 (some .int) :: TB) (rmD 0 0 0) (PcH g [.ref (gB g + a0), .int x1, .int x2] h) (QcI g r h') 0 0 (aB g) := by
  refine Met.ofW (cc := cX10_good) (maxL := 3) (ret := some .int) (by decide) rfl ?_
  intro p e s m args below meth c s₁ B hml hv
  obtain ⟨rfl, hH0, hkk0⟩ := hv
  have C : CT g RX10 cX10_good 3 (Cond.code yX10_good cX10_good 3 (some .int) :: TB) p s m _ meth c := pg_ct (Tw := []) B hml hH0 hkk0
  have hr := B.returns
  have hH : HS g s s.heap [] h := ⟨hH0, va_S.rf⟩
  have hl := lv_entry ([.ref (gB g + a0), .int x1, .int x2]) (n := 3) (Nat.le_of_ble_eq_true rfl)
  rw [lg_entry_eq]
  generalize (lg_sl ([.ref (gB g + a0), .int x1, .int x2]) ++ List.replicate (3 - (lg_sl ([.ref (gB g + a0), .int x1, .int x2])).length) Slot.unset).toArray = ls at hl ⊢
  have hl : lv_has ls 3 [(0, .ref (gB g + a0)), (1, .int x1), (2, .int x2)] := hl
  show W p l e (rmD 0 0 0) _ _ _ _ _ _ _ _ _ _ _ _
  unfold mX10_good at hf
  obtain ⟨hO, hf⟩ := oO_sp hf
  obtain ⟨⟨hx, hb, hml, hown, hts⟩, htb, hlk, hkk, hbs⟩ := id C
  refine lv_aload_n hx hb dX10_good_0 rfl (lv_at hl 0 rfl) ?_
  refine pg_gR C hH fl_X10_13 hf dX10_good_1 (fun v1 hf => ?_)
  refine lv_bipush (v := (24 : Int32)) hx hb dX10_good_4 (by decide) ?_
  refine lv_iconst (v := (4 : Int32)) hx hb dX10_good_6 (by decide) ?_
  refine lv_iload_n hx hb dX10_good_7 rfl (lv_at hl 1 rfl) ?_
  refine lv_imul hx hb dX10_good_8 ?_
  refine lv_iadd hx hb dX10_good_9 ?_
  refine lv_iload_n hx hb dX10_good_10 rfl (lv_at hl 2 rfl) ?_
  refine lv_iadd hx hb dX10_good_11 ?_
  refine pg_aI C hH hf dX10_good_12 (fun v12 hf => ?_)
  exact pg_iret C hr hH hf dX10_good_13
set_option maxHeartbeats 4000000 in
set_option maxRecDepth 100000 in
theorem c_X10_likeness {l : Launch} {g : GD} {h : PH} {a0 : Nat} {x1 : Int32} {x2 : Int32} {r : Int32} {h' : PH} (hf : mX10_likeness h a0 x1 x2 = some (r, h')) : Met l yX10_likeness (Cond.code yX10_likeness cX10_likeness 3 (some .int) :: TB) (rmD 1 0 0) (PcH g [.ref (gB g + a0), .int x1, .int x2] h) (QcI g r h') 0 0 (aB g) := by
  refine Met.ofW (cc := cX10_likeness) (maxL := 3) (ret := some .int) (by decide) rfl ?_
  intro p e s m args below meth c s₁ B hml hv
  obtain ⟨rfl, hH0, hkk0⟩ := hv
  have C : CT g RX10 cX10_likeness 3 (Cond.code yX10_likeness cX10_likeness 3 (some .int) :: TB) p s m _ meth c := pg_ct (Tw := []) B hml hH0 hkk0
  have hr := B.returns
  have hH : HS g s s.heap [] h := ⟨hH0, va_S.rf⟩
  have hl := lv_entry ([.ref (gB g + a0), .int x1, .int x2]) (n := 3) (Nat.le_of_ble_eq_true rfl)
  rw [lg_entry_eq]
  generalize (lg_sl ([.ref (gB g + a0), .int x1, .int x2]) ++ List.replicate (3 - (lg_sl ([.ref (gB g + a0), .int x1, .int x2])).length) Slot.unset).toArray = ls at hl ⊢
  have hl : lv_has ls 3 [(0, .ref (gB g + a0)), (1, .int x1), (2, .int x2)] := hl
  show W p l e (rmD 1 0 0) _ _ _ _ _ _ _ _ _ _ _ _
  unfold mX10_likeness at hf
  obtain ⟨hO, hf⟩ := oO_sp hf
  obtain ⟨⟨hx, hb, hml, hown, hts⟩, htb, hlk, hkk, hbs⟩ := id C
  refine lv_iload_n hx hb dX10_likeness_0 rfl (lv_at hl 1 rfl) ?_
  refine lv_iload_n hx hb dX10_likeness_1 rfl (lv_at hl 2 rfl) ?_
  refine lv_icmp_ne (tgt := 9) hx hb dX10_likeness_2 (by decide) (fun cn => ?_) (fun cn => ?_)
  · have hf := (if_neg cn).symm.trans hf
    refine lv_aload_n hx hb dX10_likeness_9 rfl (lv_at hl 0 rfl) ?_
    refine lv_iload_n hx hb dX10_likeness_10 rfl (lv_at hl 1 rfl) ?_
    refine lv_iconst (v := (0 : Int32)) hx hb dX10_likeness_11 (by decide) ?_
    refine pg_Vi (As := [.int x1, .int (0 : Int32)]) C hH mi_X10_good vl_X10_298 (q := (RX10, TX10, 34)) (ci := 10) rfl rfl hf (fun _ e1 => (oO_sp e1).1) (fun _ _ e1 => c_X10_good e1) rfl rfl hl.1 (Nat.le_of_ble_eq_true rfl) ⟨Nat.le_of_ble_eq_true rfl, Nat.le_of_ble_eq_true rfl⟩ ⟨Nat.zero_le _, Nat.zero_le _⟩ dX10_likeness_12 (fun H locs v12 h12 hH hf => ?_)
    refine lv_aload_n hx hb dX10_likeness_15 rfl (lv_at hl 0 rfl) ?_
    refine lv_iload_n hx hb dX10_likeness_16 rfl (lv_at hl 2 rfl) ?_
    refine lv_iconst (v := (0 : Int32)) hx hb dX10_likeness_17 (by decide) ?_
    refine pg_Vi (As := [.int x2, .int (0 : Int32)]) C hH mi_X10_good vl_X10_298 (q := (RX10, TX10, 34)) (ci := 10) rfl rfl hf (fun _ e1 => (oO_sp e1).1) (fun _ _ e1 => c_X10_good e1) rfl rfl hl.1 (Nat.le_of_ble_eq_true rfl) ⟨Nat.le_of_ble_eq_true rfl, Nat.le_of_ble_eq_true rfl⟩ ⟨Nat.zero_le _, Nat.zero_le _⟩ dX10_likeness_18 (fun H locs v18 h18 hH hf => ?_)
    refine lv_icmp_ne (tgt := 43) hx hb dX10_likeness_21 (by decide) (fun cn => ?_) (fun cn => ?_)
    · have hf := (if_neg cn).symm.trans hf
      refine lv_iconst (v := (0 : Int32)) hx hb dX10_likeness_43 (by decide) ?_
      exact pg_iret C hr hH hf dX10_likeness_44
    · have hf := (if_pos cn).symm.trans hf
      refine lv_aload_n hx hb dX10_likeness_24 rfl (lv_at hl 0 rfl) ?_
      refine lv_iload_n hx hb dX10_likeness_25 rfl (lv_at hl 1 rfl) ?_
      refine lv_iconst (v := (1 : Int32)) hx hb dX10_likeness_26 (by decide) ?_
      refine pg_Vi (As := [.int x1, .int (1 : Int32)]) C hH mi_X10_good vl_X10_298 (q := (RX10, TX10, 34)) (ci := 10) rfl rfl hf (fun _ e1 => (oO_sp e1).1) (fun _ _ e1 => c_X10_good e1) rfl rfl hl.1 (Nat.le_of_ble_eq_true rfl) ⟨Nat.le_of_ble_eq_true rfl, Nat.le_of_ble_eq_true rfl⟩ ⟨Nat.zero_le _, Nat.zero_le _⟩ dX10_likeness_27 (fun H locs v27 h27 hH hf => ?_)
      refine lv_aload_n hx hb dX10_likeness_30 rfl (lv_at hl 0 rfl) ?_
      refine lv_iload_n hx hb dX10_likeness_31 rfl (lv_at hl 2 rfl) ?_
      refine lv_iconst (v := (1 : Int32)) hx hb dX10_likeness_32 (by decide) ?_
      refine pg_Vi (As := [.int x2, .int (1 : Int32)]) C hH mi_X10_good vl_X10_298 (q := (RX10, TX10, 34)) (ci := 10) rfl rfl hf (fun _ e1 => (oO_sp e1).1) (fun _ _ e1 => c_X10_good e1) rfl rfl hl.1 (Nat.le_of_ble_eq_true rfl) ⟨Nat.le_of_ble_eq_true rfl, Nat.le_of_ble_eq_true rfl⟩ ⟨Nat.zero_le _, Nat.zero_le _⟩ dX10_likeness_33 (fun H locs v33 h33 hH hf => ?_)
      refine lv_icmp_ne (tgt := 43) hx hb dX10_likeness_36 (by decide) (fun cn => ?_) (fun cn => ?_)
      · have hf := (if_neg cn).symm.trans hf
        refine lv_iconst (v := (0 : Int32)) hx hb dX10_likeness_43 (by decide) ?_
        exact pg_iret C hr hH hf dX10_likeness_44
      · have hf := (if_pos cn).symm.trans hf
        refine lv_iconst (v := (2 : Int32)) hx hb dX10_likeness_39 (by decide) ?_
        refine lv_goto (tgt := 44) hx hb dX10_likeness_40 (by decide) ?_
        exact pg_iret C hr hH hf dX10_likeness_44
  · have hf := (if_pos cn).symm.trans hf
    refine lv_iconst (v := (1 : Int32)) hx hb dX10_likeness_5 (by decide) ?_
    refine lv_goto (tgt := 44) hx hb dX10_likeness_6 (by decide) ?_
    exact pg_iret C hr hH hf dX10_likeness_44
set_option maxHeartbeats 4000000 in
set_option maxRecDepth 100000 in
theorem c_X10_like {l : Launch} {g : GD} {h : PH} {a0 : Nat} {x1 : Int32} {x2 : Int32} {r : Int32} {h' : PH} (hf : mX10_like h a0 x1 x2 = some (r, h')) : Met l yX10_like (Cond.code yX10_like cX10_like 3 (some .int) :: TB) (rmD 2 0 0) (PcH g [.ref (gB g + a0), .int x1, .int x2] h) (QcI g r h') 0 0 (aB g) := by
  refine Met.ofW (cc := cX10_like) (maxL := 3) (ret := some .int) (by decide) rfl ?_
  intro p e s m args below meth c s₁ B hml hv
  obtain ⟨rfl, hH0, hkk0⟩ := hv
  have C : CT g RX10 cX10_like 3 (Cond.code yX10_like cX10_like 3 (some .int) :: TB) p s m _ meth c := pg_ct (Tw := []) B hml hH0 hkk0
  have hr := B.returns
  have hH : HS g s s.heap [] h := ⟨hH0, va_S.rf⟩
  have hl := lv_entry ([.ref (gB g + a0), .int x1, .int x2]) (n := 3) (Nat.le_of_ble_eq_true rfl)
  rw [lg_entry_eq]
  generalize (lg_sl ([.ref (gB g + a0), .int x1, .int x2]) ++ List.replicate (3 - (lg_sl ([.ref (gB g + a0), .int x1, .int x2])).length) Slot.unset).toArray = ls at hl ⊢
  have hl : lv_has ls 3 [(0, .ref (gB g + a0)), (1, .int x1), (2, .int x2)] := hl
  show W p l e (rmD 2 0 0) _ _ _ _ _ _ _ _ _ _ _ _
  unfold mX10_like at hf
  obtain ⟨hO, hf⟩ := oO_sp hf
  obtain ⟨⟨hx, hb, hml, hown, hts⟩, htb, hlk, hkk, hbs⟩ := id C
  refine lv_aload_n hx hb dX10_like_0 rfl (lv_at hl 0 rfl) ?_
  refine lv_iconst (v := (0 : Int32)) hx hb dX10_like_1 (by decide) ?_
  refine pg_pI C hH fl_X10_1 fm_10_0 hf dX10_like_2 (fun H locs h2 hH hf => ?_)
  refine lv_aload_n hx hb dX10_like_5 rfl (lv_at hl 0 rfl) ?_
  refine pg_gR C hH fl_X10_13 hf dX10_like_6 (fun v6 hf => ?_)
  refine lv_iconst (v := (1 : Int32)) hx hb dX10_like_9 (by decide) ?_
  refine pg_aI C hH hf dX10_like_10 (fun v10 hf => ?_)
  refine lv_iload_n hx hb dX10_like_11 rfl (lv_at hl 1 rfl) ?_
  refine pg_Si (As := [.int v10, .int x1]) C hH mi_X10_isIn sl_X10_278 hf (fun _ _ e1 => c_X10_isIn e1) rfl rfl hl.1 (Nat.le_of_ble_eq_true rfl) ⟨Nat.le_of_ble_eq_true rfl, Nat.le_of_ble_eq_true rfl⟩ ⟨Nat.zero_le _, Nat.zero_le _⟩ dX10_like_12 (fun H locs v12 h12 hH hf => ?_)
  refine lv_if_eq (tgt := 40) hx hb dX10_like_15 (by decide) (fun cn => ?_) (fun cn => ?_)
  · have hf := (if_pos cn).symm.trans hf
    refine lv_iconst (v := (-1 : Int32)) hx hb dX10_like_40 (by decide) ?_
    exact pg_iret C hr hH hf dX10_like_41
  · have hf := (if_neg cn).symm.trans hf
    refine lv_aload_n hx hb dX10_like_18 rfl (lv_at hl 0 rfl) ?_
    refine pg_gR C hH fl_X10_13 hf dX10_like_19 (fun v19 hf => ?_)
    refine lv_iconst (v := (1 : Int32)) hx hb dX10_like_22 (by decide) ?_
    refine pg_aI C hH hf dX10_like_23 (fun v23 hf => ?_)
    refine lv_iload_n hx hb dX10_like_24 rfl (lv_at hl 2 rfl) ?_
    refine pg_Si (As := [.int v23, .int x2]) C hH mi_X10_isIn sl_X10_278 hf (fun _ _ e1 => c_X10_isIn e1) rfl rfl hl.1 (Nat.le_of_ble_eq_true rfl) ⟨Nat.le_of_ble_eq_true rfl, Nat.le_of_ble_eq_true rfl⟩ ⟨Nat.zero_le _, Nat.zero_le _⟩ dX10_like_25 (fun H locs v25 h25 hH hf => ?_)
    refine lv_if_eq (tgt := 40) hx hb dX10_like_28 (by decide) (fun cn => ?_) (fun cn => ?_)
    · have hf := (if_pos cn).symm.trans hf
      refine lv_iconst (v := (-1 : Int32)) hx hb dX10_like_40 (by decide) ?_
      exact pg_iret C hr hH hf dX10_like_41
    · have hf := (if_neg cn).symm.trans hf
      refine lv_aload_n hx hb dX10_like_31 rfl (lv_at hl 0 rfl) ?_
      refine lv_iload_n hx hb dX10_like_32 rfl (lv_at hl 1 rfl) ?_
      refine lv_iload_n hx hb dX10_like_33 rfl (lv_at hl 2 rfl) ?_
      refine pg_Vi (As := [.int x1, .int x2]) C hH mi_X10_likeness vl_X10_301 (q := (RX10, TX10, 34)) (ci := 10) rfl rfl hf (fun _ e1 => (oO_sp e1).1) (fun _ _ e1 => c_X10_likeness e1) rfl rfl hl.1 (Nat.le_of_ble_eq_true rfl) ⟨Nat.le_of_ble_eq_true rfl, Nat.le_of_ble_eq_true rfl⟩ ⟨Nat.zero_le _, Nat.zero_le _⟩ dX10_like_34 (fun H locs v34 h34 hH hf => ?_)
      refine lv_goto (tgt := 41) hx hb dX10_like_37 (by decide) ?_
      exact pg_iret C hr hH hf dX10_like_41
set_option maxHeartbeats 4000000 in
set_option maxRecDepth 100000 in
theorem c_X10_band {l : Launch} {g : GD} {h : PH} {a0 : Nat} {x1 : Int32} {x2 : Int32} {r : Int32} {h' : PH} (hf : mX10_band h a0 x1 x2 = some (r, h')) : Met l yX10_band (Cond.code yX10_band cX10_band 3 (some .int) :: TB) (rmD 1 0 0) (PcH g [.ref (gB g + a0), .int x1, .int x2] h) (QcI g r h') 0 0 (aB g) := by
  refine Met.ofW (cc := cX10_band) (maxL := 3) (ret := some .int) (by decide) rfl ?_
  intro p e s m args below meth c s₁ B hml hv
  obtain ⟨rfl, hH0, hkk0⟩ := hv
  have C : CT g RX10 cX10_band 3 (Cond.code yX10_band cX10_band 3 (some .int) :: TB) p s m _ meth c := pg_ct (Tw := []) B hml hH0 hkk0
  have hr := B.returns
  have hH : HS g s s.heap [] h := ⟨hH0, va_S.rf⟩
  have hl := lv_entry ([.ref (gB g + a0), .int x1, .int x2]) (n := 3) (Nat.le_of_ble_eq_true rfl)
  rw [lg_entry_eq]
  generalize (lg_sl ([.ref (gB g + a0), .int x1, .int x2]) ++ List.replicate (3 - (lg_sl ([.ref (gB g + a0), .int x1, .int x2])).length) Slot.unset).toArray = ls at hl ⊢
  have hl : lv_has ls 3 [(0, .ref (gB g + a0)), (1, .int x1), (2, .int x2)] := hl
  show W p l e (rmD 1 0 0) _ _ _ _ _ _ _ _ _ _ _ _
  unfold mX10_band at hf
  obtain ⟨hO, hf⟩ := oO_sp hf
  obtain ⟨⟨hx, hb, hml, hown, hts⟩, htb, hlk, hkk, hbs⟩ := id C
  refine lv_aload_n hx hb dX10_band_0 rfl (lv_at hl 0 rfl) ?_
  refine lv_iconst (v := (0 : Int32)) hx hb dX10_band_1 (by decide) ?_
  refine pg_pI C hH fl_X10_1 fm_10_0 hf dX10_band_2 (fun H locs h2 hH hf => ?_)
  refine lv_aload_n hx hb dX10_band_5 rfl (lv_at hl 0 rfl) ?_
  refine pg_gR C hH fl_X10_13 hf dX10_band_6 (fun v6 hf => ?_)
  refine lv_iconst (v := (5 : Int32)) hx hb dX10_band_9 (by decide) ?_
  refine pg_aI C hH hf dX10_band_10 (fun v10 hf => ?_)
  refine lv_iload_n hx hb dX10_band_11 rfl (lv_at hl 1 rfl) ?_
  refine pg_Si (As := [.int v10, .int x1]) C hH mi_X10_isIn sl_X10_278 hf (fun _ _ e1 => c_X10_isIn e1) rfl rfl hl.1 (Nat.le_of_ble_eq_true rfl) ⟨Nat.le_of_ble_eq_true rfl, Nat.le_of_ble_eq_true rfl⟩ ⟨Nat.zero_le _, Nat.zero_le _⟩ dX10_band_12 (fun H locs v12 h12 hH hf => ?_)
  refine lv_if_eq (tgt := 45) hx hb dX10_band_15 (by decide) (fun cn => ?_) (fun cn => ?_)
  · have hf := (if_pos cn).symm.trans hf
    refine lv_iconst (v := (-1 : Int32)) hx hb dX10_band_45 (by decide) ?_
    exact pg_iret C hr hH hf dX10_band_46
  · have hf := (if_neg cn).symm.trans hf
    refine lv_iload_n hx hb dX10_band_18 rfl (lv_at hl 2 rfl) ?_
    refine lv_i2l (v := (Int32.toInt64 x2)) hx hb dX10_band_19 rfl ?_
    refine lv_lconst (v := (0 : Int64)) hx hb dX10_band_20 (by decide) ?_
    refine lv_lconst (v := (1 : Int64)) hx hb dX10_band_21 (by decide) ?_
    refine pg_Si (As := [.long (Int32.toInt64 x2), .long (0 : Int64), .long (1 : Int64)]) C hH mi_X10_within sl_X10_97 hf (fun _ _ e1 => c_X10_within e1) rfl rfl hl.1 (Nat.le_of_ble_eq_true rfl) ⟨Nat.le_of_ble_eq_true rfl, Nat.le_of_ble_eq_true rfl⟩ ⟨Nat.zero_le _, Nat.zero_le _⟩ dX10_band_22 (fun H locs v22 h22 hH hf => ?_)
    refine lv_if_eq (tgt := 45) hx hb dX10_band_25 (by decide) (fun cn => ?_) (fun cn => ?_)
    · have hf := (if_pos cn).symm.trans hf
      refine lv_iconst (v := (-1 : Int32)) hx hb dX10_band_45 (by decide) ?_
      exact pg_iret C hr hH hf dX10_band_46
    · have hf := (if_neg cn).symm.trans hf
      refine lv_aload_n hx hb dX10_band_28 rfl (lv_at hl 0 rfl) ?_
      refine pg_gR C hH fl_X10_13 hf dX10_band_29 (fun v29 hf => ?_)
      refine lv_sipush (v := (224 : Int32)) hx hb dX10_band_32 (by decide) ?_
      refine lv_iconst (v := (2 : Int32)) hx hb dX10_band_35 (by decide) ?_
      refine lv_iload_n hx hb dX10_band_36 rfl (lv_at hl 1 rfl) ?_
      refine lv_imul hx hb dX10_band_37 ?_
      refine lv_iadd hx hb dX10_band_38 ?_
      refine lv_iload_n hx hb dX10_band_39 rfl (lv_at hl 2 rfl) ?_
      refine lv_iadd hx hb dX10_band_40 ?_
      refine pg_aI C hH hf dX10_band_41 (fun v41 hf => ?_)
      refine lv_goto (tgt := 46) hx hb dX10_band_42 (by decide) ?_
      exact pg_iret C hr hH hf dX10_band_46
set_option maxHeartbeats 4000000 in
set_option maxRecDepth 100000 in
theorem c_X10_isThere {l : Launch} {g : GD} {h : PH} {a0 : Nat} {x1 : Int32} {r : Int32} {h' : PH} (hf : mX10_isThere h a0 x1 = some (r, h')) : Met l yX10_isThere (Cond.code yX10_isThere cX10_isThere 2 (some .boolean) :: TB) (rmD 0 0 0) (PcH g [.ref (gB g + a0), .int x1] h) (QcI g r h') 0 0 (aB g) := by
  refine Met.ofW (cc := cX10_isThere) (maxL := 2) (ret := some .boolean) (by decide) rfl ?_
  intro p e s m args below meth c s₁ B hml hv
  obtain ⟨rfl, hH0, hkk0⟩ := hv
  have C : CT g RX10 cX10_isThere 2 (Cond.code yX10_isThere cX10_isThere 2 (some .boolean) :: TB) p s m _ meth c := pg_ct (Tw := []) B hml hH0 hkk0
  have hr := B.returns
  have hH : HS g s s.heap [] h := ⟨hH0, va_S.rf⟩
  have hl := lv_entry ([.ref (gB g + a0), .int x1]) (n := 2) (Nat.le_of_ble_eq_true rfl)
  rw [lg_entry_eq]
  generalize (lg_sl ([.ref (gB g + a0), .int x1]) ++ List.replicate (2 - (lg_sl ([.ref (gB g + a0), .int x1])).length) Slot.unset).toArray = ls at hl ⊢
  have hl : lv_has ls 2 [(0, .ref (gB g + a0)), (1, .int x1)] := hl
  show W p l e (rmD 0 0 0) _ _ _ _ _ _ _ _ _ _ _ _
  unfold mX10_isThere at hf
  obtain ⟨hO, hf⟩ := oO_sp hf
  obtain ⟨⟨hx, hb, hml, hown, hts⟩, htb, hlk, hkk, hbs⟩ := id C
  refine lv_iload_n hx hb dX10_isThere_0 rfl (lv_at hl 1 rfl) ?_
  refine lv_aload_n hx hb dX10_isThere_1 rfl (lv_at hl 0 rfl) ?_
  refine pg_gI C hH fl_X10_47 hf dX10_isThere_2 (fun v2 hf => ?_)
  refine lv_icmp_eq (tgt := 12) hx hb dX10_isThere_5 (by decide) (fun cn => ?_) (fun cn => ?_)
  · have hf := (if_pos cn).symm.trans hf
    refine lv_iconst (v := (0 : Int32)) hx hb dX10_isThere_12 (by decide) ?_
    exact pg_zret C hr hH hf dX10_isThere_13
  · have hf := (if_neg cn).symm.trans hf
    refine lv_iconst (v := (1 : Int32)) hx hb dX10_isThere_8 (by decide) ?_
    refine lv_goto (tgt := 13) hx hb dX10_isThere_9 (by decide) ?_
    exact pg_zret C hr hH hf dX10_isThere_13
set_option maxHeartbeats 4000000 in
set_option maxRecDepth 100000 in
theorem c_X10_assistOf {l : Launch} {g : GD} {h : PH} {a0 : Nat} {x1 : Int32} {x2 : Int32} {r : Int32} {h' : PH} (hf : mX10_assistOf h a0 x1 x2 = some (r, h')) : Met l yX10_assistOf (Cond.code yX10_assistOf cX10_assistOf 3 (some .int) :: TB) (rmD 0 0 0) (PcH g [.ref (gB g + a0), .int x1, .int x2] h) (QcI g r h') 0 0 (aB g) := by
  refine Met.ofW (cc := cX10_assistOf) (maxL := 3) (ret := some .int) (by decide) rfl ?_
  intro p e s m args below meth c s₁ B hml hv
  obtain ⟨rfl, hH0, hkk0⟩ := hv
  have C : CT g RX10 cX10_assistOf 3 (Cond.code yX10_assistOf cX10_assistOf 3 (some .int) :: TB) p s m _ meth c := pg_ct (Tw := []) B hml hH0 hkk0
  have hr := B.returns
  have hH : HS g s s.heap [] h := ⟨hH0, va_S.rf⟩
  have hl := lv_entry ([.ref (gB g + a0), .int x1, .int x2]) (n := 3) (Nat.le_of_ble_eq_true rfl)
  rw [lg_entry_eq]
  generalize (lg_sl ([.ref (gB g + a0), .int x1, .int x2]) ++ List.replicate (3 - (lg_sl ([.ref (gB g + a0), .int x1, .int x2])).length) Slot.unset).toArray = ls at hl ⊢
  have hl : lv_has ls 3 [(0, .ref (gB g + a0)), (1, .int x1), (2, .int x2)] := hl
  show W p l e (rmD 0 0 0) _ _ _ _ _ _ _ _ _ _ _ _
  unfold mX10_assistOf at hf
  obtain ⟨hO, hf⟩ := oO_sp hf
  obtain ⟨⟨hx, hb, hml, hown, hts⟩, htb, hlk, hkk, hbs⟩ := id C
  refine lv_aload_n hx hb dX10_assistOf_0 rfl (lv_at hl 0 rfl) ?_
  refine pg_gR C hH fl_X10_13 hf dX10_assistOf_1 (fun v1 hf => ?_)
  refine lv_bipush (v := (48 : Int32)) hx hb dX10_assistOf_4 (by decide) ?_
  refine lv_iconst (v := (2 : Int32)) hx hb dX10_assistOf_6 (by decide) ?_
  refine lv_iload_n hx hb dX10_assistOf_7 rfl (lv_at hl 1 rfl) ?_
  refine lv_imul hx hb dX10_assistOf_8 ?_
  refine lv_iadd hx hb dX10_assistOf_9 ?_
  refine lv_iload_n hx hb dX10_assistOf_10 rfl (lv_at hl 2 rfl) ?_
  refine lv_iadd hx hb dX10_assistOf_11 ?_
  refine pg_aI C hH hf dX10_assistOf_12 (fun v12 hf => ?_)
  exact pg_iret C hr hH hf dX10_assistOf_13
set_option maxHeartbeats 4000000 in
set_option maxRecDepth 100000 in
theorem c_X10_uses {l : Launch} {g : GD} {h : PH} {a0 : Nat} {x1 : Int32} {x2 : Int32} {r : Int32} {h' : PH} (hf : mX10_uses h a0 x1 x2 = some (r, h')) : Met l yX10_uses (Cond.code yX10_uses cX10_uses 3 (some .boolean) :: TB) (rmD 1 0 0) (PcH g [.ref (gB g + a0), .int x1, .int x2] h) (QcI g r h') 0 0 (aB g) := by
  refine Met.ofW (cc := cX10_uses) (maxL := 3) (ret := some .boolean) (by decide) rfl ?_
  intro p e s m args below meth c s₁ B hml hv
  obtain ⟨rfl, hH0, hkk0⟩ := hv
  have C : CT g RX10 cX10_uses 3 (Cond.code yX10_uses cX10_uses 3 (some .boolean) :: TB) p s m _ meth c := pg_ct (Tw := []) B hml hH0 hkk0
  have hr := B.returns
  have hH : HS g s s.heap [] h := ⟨hH0, va_S.rf⟩
  have hl := lv_entry ([.ref (gB g + a0), .int x1, .int x2]) (n := 3) (Nat.le_of_ble_eq_true rfl)
  rw [lg_entry_eq]
  generalize (lg_sl ([.ref (gB g + a0), .int x1, .int x2]) ++ List.replicate (3 - (lg_sl ([.ref (gB g + a0), .int x1, .int x2])).length) Slot.unset).toArray = ls at hl ⊢
  have hl : lv_has ls 3 [(0, .ref (gB g + a0)), (1, .int x1), (2, .int x2)] := hl
  show W p l e (rmD 1 0 0) _ _ _ _ _ _ _ _ _ _ _ _
  unfold mX10_uses at hf
  obtain ⟨hO, hf⟩ := oO_sp hf
  obtain ⟨⟨hx, hb, hml, hown, hts⟩, htb, hlk, hkk, hbs⟩ := id C
  refine lv_aload_n hx hb dX10_uses_0 rfl (lv_at hl 0 rfl) ?_
  refine lv_iload_n hx hb dX10_uses_1 rfl (lv_at hl 1 rfl) ?_
  refine pg_Vi (As := [.int x1]) C hH mi_X10_isThere vl_X10_304 (q := (RX10, TX10, 34)) (ci := 10) rfl rfl hf (fun _ e1 => (oO_sp e1).1) (fun _ _ e1 => c_X10_isThere e1) rfl rfl hl.1 (Nat.le_of_ble_eq_true rfl) ⟨Nat.le_of_ble_eq_true rfl, Nat.le_of_ble_eq_true rfl⟩ ⟨Nat.zero_le _, Nat.zero_le _⟩ dX10_uses_2 (fun H locs v2 h2 hH hf => ?_)
  refine lv_if_eq (tgt := 26) hx hb dX10_uses_5 (by decide) (fun cn => ?_) (fun cn => ?_)
  · have hf := (if_pos cn).symm.trans hf
    refine lv_iconst (v := (0 : Int32)) hx hb dX10_uses_26 (by decide) ?_
    exact pg_zret C hr hH hf dX10_uses_27
  · have hf := (if_neg cn).symm.trans hf
    refine lv_aload_n hx hb dX10_uses_8 rfl (lv_at hl 0 rfl) ?_
    refine lv_iload_n hx hb dX10_uses_9 rfl (lv_at hl 1 rfl) ?_
    refine lv_bipush (v := (11 : Int32)) hx hb dX10_uses_10 (by decide) ?_
    refine pg_Vi (As := [.int x1, .int (11 : Int32)]) C hH mi_X10_of vl_X10_281 (q := (RX10, TX10, 34)) (ci := 10) rfl rfl hf (fun _ e1 => (oO_sp e1).1) (fun _ _ e1 => c_X10_of e1) rfl rfl hl.1 (Nat.le_of_ble_eq_true rfl) ⟨Nat.le_of_ble_eq_true rfl, Nat.le_of_ble_eq_true rfl⟩ ⟨Nat.zero_le _, Nat.zero_le _⟩ dX10_uses_12 (fun H locs v12 h12 hH hf => ?_)
    refine lv_iload_n hx hb dX10_uses_15 rfl (lv_at hl 2 rfl) ?_
    refine pg_Si (As := [.int v12, .int x2]) C hH mi_X10_has sl_X10_217 hf (fun _ _ e1 => c_X10_has e1) rfl rfl hl.1 (Nat.le_of_ble_eq_true rfl) ⟨Nat.le_of_ble_eq_true rfl, Nat.le_of_ble_eq_true rfl⟩ ⟨Nat.zero_le _, Nat.zero_le _⟩ dX10_uses_16 (fun H locs v16 h16 hH hf => ?_)
    refine lv_if_eq (tgt := 26) hx hb dX10_uses_19 (by decide) (fun cn => ?_) (fun cn => ?_)
    · have hf := (if_pos cn).symm.trans hf
      refine lv_iconst (v := (0 : Int32)) hx hb dX10_uses_26 (by decide) ?_
      exact pg_zret C hr hH hf dX10_uses_27
    · have hf := (if_neg cn).symm.trans hf
      refine lv_iconst (v := (1 : Int32)) hx hb dX10_uses_22 (by decide) ?_
      refine lv_goto (tgt := 27) hx hb dX10_uses_23 (by decide) ?_
      exact pg_zret C hr hH hf dX10_uses_27
set_option maxHeartbeats 4000000 in
set_option maxRecDepth 100000 in
theorem wX10_looksAhead_b62 {r12 : PH → Nat → Int32 → Int32 → Int32 → Option (PH)} {h' : PH} (C : CT g RX10 cX10_looksAhead 5 (Cond.code yX10_looksAhead cX10_looksAhead 5 (none) :: TB) p s m args meth c) (hr : meth.sig.returnType = none) (k12 : ∀ {h : PH} {a0 : Nat} {x1 : Int32} {x2 : Int32} {x3 : Int32} {H : Heap} {locs : List Loc} {ls : Array Slot}, HS g s H locs h → r12 h a0 x1 x2 x3 = some h' → lv_has ls 5 [(0, .ref (gB g + a0)), (1, .int x1), (2, .int x2), (3, .int x3)] → W p l e (rmD 2 0 0) s m args below meth c H locs 0 0 (MQ below (QcV g h') args s 0 0 (aB g)) (F0 m 12 ls [])) {h : PH} {a0 : Nat} {x1 : Int32} {x2 : Int32} {x3 : Int32} {s0 : Int32} {H : Heap} {locs : List Loc} {ls : Array Slot} (hH : HS g s H locs h) (hf : mX10_looksAhead_b62 r12 h a0 x1 x2 x3 s0 = some h') (hl : lv_has ls 5 [(0, .ref (gB g + a0)), (1, .int x1), (2, .int x2), (3, .int x3)]) : W p l e (rmD 2 0 0) s m args below meth c H locs 0 0 (MQ below (QcV g h') args s 0 0 (aB g)) (F0 m 62 ls [.int s0]) := by
  obtain ⟨⟨hx, hb, hml, hown, hts⟩, htb, hlk, hkk, hbs⟩ := id C
  unfold mX10_looksAhead_b62 at hf
  refine lv_istore (lv' := [(4, .int s0), (0, .ref (gB g + a0)), (1, .int x1), (2, .int x2), (3, .int x3)]) hx hb dX10_looksAhead_62 hl (by decide) rfl (fun ls hl => ?_)
  refine lv_iload hx hb dX10_looksAhead_64 (lv_at hl 0 rfl) ?_
  refine lv_if_eq (tgt := 103) hx hb dX10_looksAhead_66 (by decide) (fun cn => ?_) (fun cn => ?_)
  · have hf := (if_pos cn).symm.trans hf
    refine lv_iinc (v := (x3 + 1)) (lv' := [(3, .int (x3 + 1)), (4, .int s0), (0, .ref (gB g + a0)), (1, .int x1), (2, .int x2)]) hx hb dX10_looksAhead_103 hl (k := 4) rfl rfl (by decide) rfl (fun ls hl => ?_)
    refine lv_goto (tgt := 12) hx hb dX10_looksAhead_106 (by decide) ?_
    exact k12 hH hf (lv_sub hl [2, 3, 4, 0] rfl)
  · have hf := (if_neg cn).symm.trans hf
    refine lv_aload_n hx hb dX10_looksAhead_69 rfl (lv_at hl 1 rfl) ?_
    refine lv_iload_n hx hb dX10_looksAhead_70 rfl (lv_at hl 4 rfl) ?_
    refine lv_iload_n hx hb dX10_looksAhead_71 rfl (lv_at hl 2 rfl) ?_
    refine pg_Vi (As := [.int x3, .int x1]) C hH mi_X10_uses vl_X10_313 (q := (RX10, TX10, 34)) (ci := 10) rfl rfl hf (fun _ e1 => (oO_sp e1).1) (fun _ _ e1 => c_X10_uses e1) rfl rfl hl.1 (Nat.le_of_ble_eq_true rfl) ⟨Nat.le_of_ble_eq_true rfl, Nat.le_of_ble_eq_true rfl⟩ ⟨Nat.zero_le _, Nat.zero_le _⟩ dX10_looksAhead_72 (fun H locs v72 h72 hH hf => ?_)
    refine lv_if_eq (tgt := 103) hx hb dX10_looksAhead_75 (by decide) (fun cn => ?_) (fun cn => ?_)
    · have hf := (if_pos cn).symm.trans hf
      refine lv_iinc (v := (x3 + 1)) (lv' := [(3, .int (x3 + 1)), (4, .int s0), (0, .ref (gB g + a0)), (1, .int x1), (2, .int x2)]) hx hb dX10_looksAhead_103 hl (k := 4) rfl rfl (by decide) rfl (fun ls hl => ?_)
      refine lv_goto (tgt := 12) hx hb dX10_looksAhead_106 (by decide) ?_
      exact k12 hH hf (lv_sub hl [2, 3, 4, 0] rfl)
    · have hf := (if_neg cn).symm.trans hf
      refine lv_aload_n hx hb dX10_looksAhead_78 rfl (lv_at hl 1 rfl) ?_
      refine lv_dup hx hb dX10_looksAhead_79 rfl ?_
      refine pg_gI C hH fl_X10_307 hf dX10_looksAhead_80 (fun v80 hf => ?_)
      refine lv_aload_n hx hb dX10_looksAhead_83 rfl (lv_at hl 1 rfl) ?_
      refine lv_iload_n hx hb dX10_looksAhead_84 rfl (lv_at hl 4 rfl) ?_
      refine lv_iconst (v := (3 : Int32)) hx hb dX10_looksAhead_85 (by decide) ?_
      refine pg_Vi (As := [.int x3, .int (3 : Int32)]) C hH mi_X10_of vl_X10_281 (q := (RX10, TX10, 34)) (ci := 10) rfl rfl hf (fun _ e1 => (oO_sp e1).1) (fun _ _ e1 => c_X10_of e1) rfl rfl hl.1 (Nat.le_of_ble_eq_true rfl) ⟨Nat.le_of_ble_eq_true rfl, Nat.le_of_ble_eq_true rfl⟩ ⟨Nat.zero_le _, Nat.zero_le _⟩ dX10_looksAhead_86 (fun H locs v86 h86 hH hf => ?_)
      refine lv_iadd hx hb dX10_looksAhead_89 ?_
      refine pg_pI C hH fl_X10_307 fm_10_24 hf dX10_looksAhead_90 (fun H locs h90 hH hf => ?_)
      refine lv_aload_n hx hb dX10_looksAhead_93 rfl (lv_at hl 1 rfl) ?_
      refine lv_dup hx hb dX10_looksAhead_94 rfl ?_
      refine pg_gI C hH fl_X10_310 hf dX10_looksAhead_95 (fun v95 hf => ?_)
      refine lv_iconst (v := (1 : Int32)) hx hb dX10_looksAhead_98 (by decide) ?_
      refine lv_iadd hx hb dX10_looksAhead_99 ?_
      refine pg_pI C hH fl_X10_310 fm_10_25 hf dX10_looksAhead_100 (fun H locs h100 hH hf => ?_)
      refine lv_iinc (v := (x3 + 1)) (lv' := [(3, .int (x3 + 1)), (4, .int s0), (0, .ref (gB g + a0)), (1, .int x1), (2, .int x2)]) hx hb dX10_looksAhead_103 hl (k := 4) rfl rfl (by decide) rfl (fun ls hl => ?_)
      refine lv_goto (tgt := 12) hx hb dX10_looksAhead_106 (by decide) ?_
      exact k12 hH hf (lv_sub hl [2, 3, 4, 0] rfl)
set_option maxHeartbeats 4000000 in
set_option maxRecDepth 100000 in
theorem wX10_looksAhead_b57 {r12 : PH → Nat → Int32 → Int32 → Int32 → Option (PH)} {h' : PH} (C : CT g RX10 cX10_looksAhead 5 (Cond.code yX10_looksAhead cX10_looksAhead 5 (none) :: TB) p s m args meth c) (hr : meth.sig.returnType = none) (k12 : ∀ {h : PH} {a0 : Nat} {x1 : Int32} {x2 : Int32} {x3 : Int32} {H : Heap} {locs : List Loc} {ls : Array Slot}, HS g s H locs h → r12 h a0 x1 x2 x3 = some h' → lv_has ls 5 [(0, .ref (gB g + a0)), (1, .int x1), (2, .int x2), (3, .int x3)] → W p l e (rmD 2 0 0) s m args below meth c H locs 0 0 (MQ below (QcV g h') args s 0 0 (aB g)) (F0 m 12 ls [])) {h : PH} {a0 : Nat} {x1 : Int32} {x2 : Int32} {x3 : Int32} {H : Heap} {locs : List Loc} {ls : Array Slot} (hH : HS g s H locs h) (hf : mX10_looksAhead_b57 r12 h a0 x1 x2 x3 = some h') (hl : lv_has ls 5 [(0, .ref (gB g + a0)), (1, .int x1), (2, .int x2), (3, .int x3)]) : W p l e (rmD 2 0 0) s m args below meth c H locs 0 0 (MQ below (QcV g h') args s 0 0 (aB g)) (F0 m 57 ls []) := by
  obtain ⟨⟨hx, hb, hml, hown, hts⟩, htb, hlk, hkk, hbs⟩ := id C
  unfold mX10_looksAhead_b57 at hf
  refine lv_iconst (v := (1 : Int32)) hx hb dX10_looksAhead_57 (by decide) ?_
  refine lv_goto (tgt := 62) hx hb dX10_looksAhead_58 (by decide) ?_
  exact wX10_looksAhead_b62 C hr k12 hH hf (lv_sub hl [0, 1, 2, 3] rfl)
set_option maxHeartbeats 4000000 in
set_option maxRecDepth 100000 in
theorem wX10_looksAhead_b61 {r12 : PH → Nat → Int32 → Int32 → Int32 → Option (PH)} {h' : PH} (C : CT g RX10 cX10_looksAhead 5 (Cond.code yX10_looksAhead cX10_looksAhead 5 (none) :: TB) p s m args meth c) (hr : meth.sig.returnType = none) (k12 : ∀ {h : PH} {a0 : Nat} {x1 : Int32} {x2 : Int32} {x3 : Int32} {H : Heap} {locs : List Loc} {ls : Array Slot}, HS g s H locs h → r12 h a0 x1 x2 x3 = some h' → lv_has ls 5 [(0, .ref (gB g + a0)), (1, .int x1), (2, .int x2), (3, .int x3)] → W p l e (rmD 2 0 0) s m args below meth c H locs 0 0 (MQ below (QcV g h') args s 0 0 (aB g)) (F0 m 12 ls [])) {h : PH} {a0 : Nat} {x1 : Int32} {x2 : Int32} {x3 : Int32} {H : Heap} {locs : List Loc} {ls : Array Slot} (hH : HS g s H locs h) (hf : mX10_looksAhead_b61 r12 h a0 x1 x2 x3 = some h') (hl : lv_has ls 5 [(0, .ref (gB g + a0)), (1, .int x1), (2, .int x2), (3, .int x3)]) : W p l e (rmD 2 0 0) s m args below meth c H locs 0 0 (MQ below (QcV g h') args s 0 0 (aB g)) (F0 m 61 ls []) := by
  obtain ⟨⟨hx, hb, hml, hown, hts⟩, htb, hlk, hkk, hbs⟩ := id C
  unfold mX10_looksAhead_b61 at hf
  refine lv_iconst (v := (0 : Int32)) hx hb dX10_looksAhead_61 (by decide) ?_
  exact wX10_looksAhead_b62 C hr k12 hH hf (lv_sub hl [0, 1, 2, 3] rfl)
set_option maxHeartbeats 4000000 in
set_option maxRecDepth 100000 in
theorem wX10_looksAhead_b12 {r12 : PH → Nat → Int32 → Int32 → Int32 → Option (PH)} {h' : PH} (C : CT g RX10 cX10_looksAhead 5 (Cond.code yX10_looksAhead cX10_looksAhead 5 (none) :: TB) p s m args meth c) (hr : meth.sig.returnType = none) (k12 : ∀ {h : PH} {a0 : Nat} {x1 : Int32} {x2 : Int32} {x3 : Int32} {H : Heap} {locs : List Loc} {ls : Array Slot}, HS g s H locs h → r12 h a0 x1 x2 x3 = some h' → lv_has ls 5 [(0, .ref (gB g + a0)), (1, .int x1), (2, .int x2), (3, .int x3)] → W p l e (rmD 2 0 0) s m args below meth c H locs 0 0 (MQ below (QcV g h') args s 0 0 (aB g)) (F0 m 12 ls [])) {h : PH} {a0 : Nat} {x1 : Int32} {x2 : Int32} {x3 : Int32} {H : Heap} {locs : List Loc} {ls : Array Slot} (hH : HS g s H locs h) (hf : mX10_looksAhead_b12 r12 h a0 x1 x2 x3 = some h') (hl : lv_has ls 5 [(0, .ref (gB g + a0)), (1, .int x1), (2, .int x2), (3, .int x3)]) : W p l e (rmD 2 0 0) s m args below meth c H locs 0 0 (MQ below (QcV g h') args s 0 0 (aB g)) (F0 m 12 ls []) := by
  obtain ⟨⟨hx, hb, hml, hown, hts⟩, htb, hlk, hkk, hbs⟩ := id C
  unfold mX10_looksAhead_b12 at hf
  refine lv_iload_n hx hb dX10_looksAhead_12 rfl (lv_at hl 3 rfl) ?_
  refine lv_aload_n hx hb dX10_looksAhead_13 rfl (lv_at hl 0 rfl) ?_
  refine pg_gR C hH fl_X10_13 hf dX10_looksAhead_14 (fun v14 hf => ?_)
  refine lv_iconst (v := (3 : Int32)) hx hb dX10_looksAhead_17 (by decide) ?_
  refine pg_aI C hH hf dX10_looksAhead_18 (fun v18 hf => ?_)
  refine lv_icmp_ge (tgt := 109) hx hb dX10_looksAhead_19 (by decide) (fun cn => ?_) (fun cn => ?_)
  · have hf := (if_pos cn).symm.trans hf
    exact pg_vret C hr hH hf dX10_looksAhead_109
  · have hf := (if_neg cn).symm.trans hf
    refine lv_aload_n hx hb dX10_looksAhead_22 rfl (lv_at hl 0 rfl) ?_
    refine lv_iload_n hx hb dX10_looksAhead_23 rfl (lv_at hl 3 rfl) ?_
    refine lv_iconst (v := (5 : Int32)) hx hb dX10_looksAhead_24 (by decide) ?_
    refine pg_Vi (As := [.int x3, .int (5 : Int32)]) C hH mi_X10_of vl_X10_281 (q := (RX10, TX10, 34)) (ci := 10) rfl rfl hf (fun _ e1 => (oO_sp e1).1) (fun _ _ e1 => c_X10_of e1) rfl rfl hl.1 (Nat.le_of_ble_eq_true rfl) ⟨Nat.le_of_ble_eq_true rfl, Nat.le_of_ble_eq_true rfl⟩ ⟨Nat.zero_le _, Nat.zero_le _⟩ dX10_looksAhead_25 (fun H locs v25 h25 hH hf => ?_)
    refine lv_aload_n hx hb dX10_looksAhead_28 rfl (lv_at hl 0 rfl) ?_
    refine lv_iload_n hx hb dX10_looksAhead_29 rfl (lv_at hl 2 rfl) ?_
    refine lv_iconst (v := (5 : Int32)) hx hb dX10_looksAhead_30 (by decide) ?_
    refine pg_Vi (As := [.int x2, .int (5 : Int32)]) C hH mi_X10_of vl_X10_281 (q := (RX10, TX10, 34)) (ci := 10) rfl rfl hf (fun _ e1 => (oO_sp e1).1) (fun _ _ e1 => c_X10_of e1) rfl rfl hl.1 (Nat.le_of_ble_eq_true rfl) ⟨Nat.le_of_ble_eq_true rfl, Nat.le_of_ble_eq_true rfl⟩ ⟨Nat.zero_le _, Nat.zero_le _⟩ dX10_looksAhead_31 (fun H locs v31 h31 hH hf => ?_)
    refine lv_icmp_lt (tgt := 57) hx hb dX10_looksAhead_34 (by decide) (fun cn => ?_) (fun cn => ?_)
    · have hf := (if_pos cn).symm.trans hf
      exact wX10_looksAhead_b57 C hr k12 hH hf (lv_sub hl [0, 1, 2, 3] rfl)
    · have hf := (if_neg cn).symm.trans hf
      refine lv_aload_n hx hb dX10_looksAhead_37 rfl (lv_at hl 0 rfl) ?_
      refine lv_iload_n hx hb dX10_looksAhead_38 rfl (lv_at hl 3 rfl) ?_
      refine lv_iconst (v := (5 : Int32)) hx hb dX10_looksAhead_39 (by decide) ?_
      refine pg_Vi (As := [.int x3, .int (5 : Int32)]) C hH mi_X10_of vl_X10_281 (q := (RX10, TX10, 34)) (ci := 10) rfl rfl hf (fun _ e1 => (oO_sp e1).1) (fun _ _ e1 => c_X10_of e1) rfl rfl hl.1 (Nat.le_of_ble_eq_true rfl) ⟨Nat.le_of_ble_eq_true rfl, Nat.le_of_ble_eq_true rfl⟩ ⟨Nat.zero_le _, Nat.zero_le _⟩ dX10_looksAhead_40 (fun H locs v40 h40 hH hf => ?_)
      refine lv_aload_n hx hb dX10_looksAhead_43 rfl (lv_at hl 0 rfl) ?_
      refine lv_iload_n hx hb dX10_looksAhead_44 rfl (lv_at hl 2 rfl) ?_
      refine lv_iconst (v := (5 : Int32)) hx hb dX10_looksAhead_45 (by decide) ?_
      refine pg_Vi (As := [.int x2, .int (5 : Int32)]) C hH mi_X10_of vl_X10_281 (q := (RX10, TX10, 34)) (ci := 10) rfl rfl hf (fun _ e1 => (oO_sp e1).1) (fun _ _ e1 => c_X10_of e1) rfl rfl hl.1 (Nat.le_of_ble_eq_true rfl) ⟨Nat.le_of_ble_eq_true rfl, Nat.le_of_ble_eq_true rfl⟩ ⟨Nat.zero_le _, Nat.zero_le _⟩ dX10_looksAhead_46 (fun H locs v46 h46 hH hf => ?_)
      refine lv_icmp_ne (tgt := 61) hx hb dX10_looksAhead_49 (by decide) (fun cn => ?_) (fun cn => ?_)
      · have hf := (if_neg cn).symm.trans hf
        exact wX10_looksAhead_b61 C hr k12 hH hf (lv_sub hl [0, 1, 2, 3] rfl)
      · have hf := (if_pos cn).symm.trans hf
        refine lv_iload_n hx hb dX10_looksAhead_52 rfl (lv_at hl 3 rfl) ?_
        refine lv_iload_n hx hb dX10_looksAhead_53 rfl (lv_at hl 2 rfl) ?_
        refine lv_icmp_ge (tgt := 61) hx hb dX10_looksAhead_54 (by decide) (fun cn => ?_) (fun cn => ?_)
        · have hf := (if_pos cn).symm.trans hf
          exact wX10_looksAhead_b61 C hr k12 hH hf (lv_sub hl [0, 1, 2, 3] rfl)
        · have hf := (if_neg cn).symm.trans hf
          exact wX10_looksAhead_b57 C hr k12 hH hf (lv_sub hl [0, 1, 2, 3] rfl)
set_option maxHeartbeats 4000000 in
set_option maxRecDepth 100000 in
theorem wX10_looksAhead_L12 {h' : PH} (C : CT g RX10 cX10_looksAhead 5 (Cond.code yX10_looksAhead cX10_looksAhead 5 (none) :: TB) p s m args meth c) (hr : meth.sig.returnType = none) : ∀ (n : Nat) {h : PH} {a0 : Nat} {x1 : Int32} {x2 : Int32} {x3 : Int32} {H : Heap} {locs : List Loc} {ls : Array Slot}, HS g s H locs h → mX10_looksAhead_L12 n h a0 x1 x2 x3 = some h' → lv_has ls 5 [(0, .ref (gB g + a0)), (1, .int x1), (2, .int x2), (3, .int x3)] → W p l e (rmD 2 0 0) s m args below meth c H locs 0 0 (MQ below (QcV g h') args s 0 0 (aB g)) (F0 m 12 ls []) := by
  intro n
  induction n with
  | zero =>
    intro h a0 x1 x2 x3 H locs ls hH hf hl
    exact absurd hf (by intro z; cases z)
  | succ n ih =>
    intro h a0 x1 x2 x3 H locs ls hH hf hl
    have hf : mX10_looksAhead_b12 (mX10_looksAhead_L12 n) h a0 x1 x2 x3 = some h' := hf
    exact wX10_looksAhead_b12 C hr (fun a b c => ih a b c) hH hf hl
set_option maxHeartbeats 4000000 in
set_option maxRecDepth 100000 in
theorem c_X10_looksAhead {l : Launch} {g : GD} {h : PH} {a0 : Nat} {x1 : Int32} {x2 : Int32} {h' : PH} (hf : mX10_looksAhead h a0 x1 x2 = some h') : Met l yX10_looksAhead (Cond.code yX10_looksAhead cX10_looksAhead 5 (none) :: TB) (rmD 2 0 0) (PcH g [.ref (gB g + a0), .int x1, .int x2] h) (QcV g h') 0 0 (aB g) := by
  refine Met.ofW (cc := cX10_looksAhead) (maxL := 5) (ret := none) (by decide) rfl ?_
  intro p e s m args below meth c s₁ B hml hv
  obtain ⟨rfl, hH0, hkk0⟩ := hv
  have C : CT g RX10 cX10_looksAhead 5 (Cond.code yX10_looksAhead cX10_looksAhead 5 (none) :: TB) p s m _ meth c := pg_ct (Tw := []) B hml hH0 hkk0
  have hr := B.returns
  have hH : HS g s s.heap [] h := ⟨hH0, va_S.rf⟩
  have hl := lv_entry ([.ref (gB g + a0), .int x1, .int x2]) (n := 5) (Nat.le_of_ble_eq_true rfl)
  rw [lg_entry_eq]
  generalize (lg_sl ([.ref (gB g + a0), .int x1, .int x2]) ++ List.replicate (5 - (lg_sl ([.ref (gB g + a0), .int x1, .int x2])).length) Slot.unset).toArray = ls at hl ⊢
  have hl : lv_has ls 5 [(0, .ref (gB g + a0)), (1, .int x1), (2, .int x2)] := hl
  show W p l e (rmD 2 0 0) _ _ _ _ _ _ _ _ _ _ _ _
  unfold mX10_looksAhead at hf
  obtain ⟨hO, hf⟩ := oO_sp hf
  obtain ⟨⟨hx, hb, hml, hown, hts⟩, htb, hlk, hkk, hbs⟩ := id C
  refine lv_aload_n hx hb dX10_looksAhead_0 rfl (lv_at hl 0 rfl) ?_
  refine lv_iconst (v := (0 : Int32)) hx hb dX10_looksAhead_1 (by decide) ?_
  refine pg_pI C hH fl_X10_307 fm_10_24 hf dX10_looksAhead_2 (fun H locs h2 hH hf => ?_)
  refine lv_aload_n hx hb dX10_looksAhead_5 rfl (lv_at hl 0 rfl) ?_
  refine lv_iconst (v := (0 : Int32)) hx hb dX10_looksAhead_6 (by decide) ?_
  refine pg_pI C hH fl_X10_310 fm_10_25 hf dX10_looksAhead_7 (fun H locs h7 hH hf => ?_)
  refine lv_iconst (v := (0 : Int32)) hx hb dX10_looksAhead_10 (by decide) ?_
  refine lv_istore_n (lv' := [(3, .int (0 : Int32)), (0, .ref (gB g + a0)), (1, .int x1), (2, .int x2)]) hx hb dX10_looksAhead_11 rfl hl (by decide) rfl (fun ls hl => ?_)
  exact wX10_looksAhead_L12 C hr FU hH hf (lv_sub hl [1, 2, 3, 0] rfl)
set_option maxHeartbeats 4000000 in
set_option maxRecDepth 100000 in
theorem wX10_shareOf_b68 {r : Int32} {h' : PH} (C : CT g RX10 cX10_shareOf 7 (Cond.code yX10_shareOf cX10_shareOf 7 (some .int) :: TB) p s m args meth c) (hr : meth.sig.returnType = some .int) {h : PH} {a0 : Nat} {x2 : Int32} {x3 : Int32} {x4 : Int32} {s0 : Int32} {H : Heap} {locs : List Loc} {ls : Array Slot} (hH : HS g s H locs h) (hf : mX10_shareOf_b68 h a0 x2 x3 x4 s0 = some (r, h')) (hl : lv_has ls 7 [(0, .ref (gB g + a0)), (2, .int x2), (3, .int x3), (4, .int x4)]) : W p l e (rmD 3 0 0) s m args below meth c H locs 0 0 (MQ below (QcI g r h') args s 0 0 (aB g)) (F0 m 68 ls [.int s0]) := by
  obtain ⟨⟨hx, hb, hml, hown, hts⟩, htb, hlk, hkk, hbs⟩ := id C
  unfold mX10_shareOf_b68 at hf
  refine lv_istore (lv' := [(5, .int s0), (0, .ref (gB g + a0)), (2, .int x2), (3, .int x3), (4, .int x4)]) hx hb dX10_shareOf_68 hl (by decide) rfl (fun ls hl => ?_)
  refine lv_iload hx hb dX10_shareOf_70 (lv_at hl 0 rfl) ?_
  refine lv_aload_n hx hb dX10_shareOf_72 rfl (lv_at hl 1 rfl) ?_
  refine lv_iload_n hx hb dX10_shareOf_73 rfl (lv_at hl 2 rfl) ?_
  refine lv_iconst (v := (3 : Int32)) hx hb dX10_shareOf_74 (by decide) ?_
  refine pg_Vi (As := [.int x2, .int (3 : Int32)]) C hH mi_X10_of vl_X10_281 (q := (RX10, TX10, 34)) (ci := 10) rfl rfl hf (fun _ e1 => (oO_sp e1).1) (fun _ _ e1 => c_X10_of e1) rfl rfl hl.1 (Nat.le_of_ble_eq_true rfl) ⟨Nat.le_of_ble_eq_true rfl, Nat.le_of_ble_eq_true rfl⟩ ⟨Nat.zero_le _, Nat.zero_le _⟩ dX10_shareOf_75 (fun H locs v75 h75 hH hf => ?_)
  refine lv_icmp_ge (tgt := 86) hx hb dX10_shareOf_78 (by decide) (fun cn => ?_) (fun cn => ?_)
  · have hf := (if_pos cn).symm.trans hf
    refine lv_aload_n hx hb dX10_shareOf_86 rfl (lv_at hl 1 rfl) ?_
    refine lv_iload_n hx hb dX10_shareOf_87 rfl (lv_at hl 2 rfl) ?_
    refine lv_iconst (v := (3 : Int32)) hx hb dX10_shareOf_88 (by decide) ?_
    refine pg_Vi (As := [.int x2, .int (3 : Int32)]) C hH mi_X10_of vl_X10_281 (q := (RX10, TX10, 34)) (ci := 10) rfl rfl hf (fun _ e1 => (oO_sp e1).1) (fun _ _ e1 => c_X10_of e1) rfl rfl hl.1 (Nat.le_of_ble_eq_true rfl) ⟨Nat.le_of_ble_eq_true rfl, Nat.le_of_ble_eq_true rfl⟩ ⟨Nat.zero_le _, Nat.zero_le _⟩ dX10_shareOf_89 (fun H locs v89 h89 hH hf => ?_)
    refine lv_istore (lv' := [(6, .int v89), (5, .int s0), (0, .ref (gB g + a0)), (2, .int x2), (3, .int x3), (4, .int x4)]) hx hb dX10_shareOf_92 hl (by decide) rfl (fun ls hl => ?_)
    refine lv_iload hx hb dX10_shareOf_94 (lv_at hl 5 rfl) ?_
    refine lv_iload hx hb dX10_shareOf_96 (lv_at hl 0 rfl) ?_
    refine lv_imul hx hb dX10_shareOf_98 ?_
    refine lv_iload_n hx hb dX10_shareOf_99 rfl (lv_at hl 4 rfl) ?_
    obtain ⟨hz100, hf⟩ := dz_sp hf
    refine lv_idiv hx hb dX10_shareOf_100 hz100 ?_
    exact pg_iret C hr hH hf dX10_shareOf_101
  · have hf := (if_neg cn).symm.trans hf
    refine lv_iload hx hb dX10_shareOf_81 (lv_at hl 0 rfl) ?_
    refine lv_goto (tgt := 92) hx hb dX10_shareOf_83 (by decide) ?_
    refine lv_istore (lv' := [(6, .int s0), (5, .int s0), (0, .ref (gB g + a0)), (2, .int x2), (3, .int x3), (4, .int x4)]) hx hb dX10_shareOf_92 hl (by decide) rfl (fun ls hl => ?_)
    refine lv_iload hx hb dX10_shareOf_94 (lv_at hl 5 rfl) ?_
    refine lv_iload hx hb dX10_shareOf_96 (lv_at hl 0 rfl) ?_
    refine lv_imul hx hb dX10_shareOf_98 ?_
    refine lv_iload_n hx hb dX10_shareOf_99 rfl (lv_at hl 4 rfl) ?_
    obtain ⟨hz100, hf⟩ := dz_sp hf
    refine lv_idiv hx hb dX10_shareOf_100 hz100 ?_
    exact pg_iret C hr hH hf dX10_shareOf_101
set_option maxHeartbeats 4000000 in
set_option maxRecDepth 100000 in
theorem c_X10_shareOf {l : Launch} {g : GD} {h : PH} {a0 : Nat} {x1 : Int32} {x2 : Int32} {r : Int32} {h' : PH} (hf : mX10_shareOf h a0 x1 x2 = some (r, h')) : Met l yX10_shareOf (Cond.code yX10_shareOf cX10_shareOf 7 (some .int) :: TB) (rmD 3 0 0) (PcH g [.ref (gB g + a0), .int x1, .int x2] h) (QcI g r h') 0 0 (aB g) := by
  refine Met.ofW (cc := cX10_shareOf) (maxL := 7) (ret := some .int) (by decide) rfl ?_
  intro p e s m args below meth c s₁ B hml hv
  obtain ⟨rfl, hH0, hkk0⟩ := hv
  have C : CT g RX10 cX10_shareOf 7 (Cond.code yX10_shareOf cX10_shareOf 7 (some .int) :: TB) p s m _ meth c := pg_ct (Tw := []) B hml hH0 hkk0
  have hr := B.returns
  have hH : HS g s s.heap [] h := ⟨hH0, va_S.rf⟩
  have hl := lv_entry ([.ref (gB g + a0), .int x1, .int x2]) (n := 7) (Nat.le_of_ble_eq_true rfl)
  rw [lg_entry_eq]
  generalize (lg_sl ([.ref (gB g + a0), .int x1, .int x2]) ++ List.replicate (7 - (lg_sl ([.ref (gB g + a0), .int x1, .int x2])).length) Slot.unset).toArray = ls at hl ⊢
  have hl : lv_has ls 7 [(0, .ref (gB g + a0)), (1, .int x1), (2, .int x2)] := hl
  show W p l e (rmD 3 0 0) _ _ _ _ _ _ _ _ _ _ _ _
  unfold mX10_shareOf at hf
  obtain ⟨hO, hf⟩ := oO_sp hf
  obtain ⟨⟨hx, hb, hml, hown, hts⟩, htb, hlk, hkk, hbs⟩ := id C
  refine lv_aload_n hx hb dX10_shareOf_0 rfl (lv_at hl 0 rfl) ?_
  refine lv_iload_n hx hb dX10_shareOf_1 rfl (lv_at hl 2 rfl) ?_
  refine lv_iload_n hx hb dX10_shareOf_2 rfl (lv_at hl 1 rfl) ?_
  refine pg_Vi (As := [.int x2, .int x1]) C hH mi_X10_uses vl_X10_313 (q := (RX10, TX10, 34)) (ci := 10) rfl rfl hf (fun _ e1 => (oO_sp e1).1) (fun _ _ e1 => c_X10_uses e1) rfl rfl hl.1 (Nat.le_of_ble_eq_true rfl) ⟨Nat.le_of_ble_eq_true rfl, Nat.le_of_ble_eq_true rfl⟩ ⟨Nat.zero_le _, Nat.zero_le _⟩ dX10_shareOf_3 (fun H locs v3 h3 hH hf => ?_)
  refine lv_if_ne (tgt := 11) hx hb dX10_shareOf_6 (by decide) (fun cn => ?_) (fun cn => ?_)
  · have hf := (if_neg cn).symm.trans hf
    refine lv_aload_n hx hb dX10_shareOf_11 rfl (lv_at hl 0 rfl) ?_
    refine lv_iload_n hx hb dX10_shareOf_12 rfl (lv_at hl 1 rfl) ?_
    refine lv_iload_n hx hb dX10_shareOf_13 rfl (lv_at hl 2 rfl) ?_
    refine pg_Vv (As := [.int x1, .int x2]) C hH mi_X10_looksAhead vl_X10_316 (q := (RX10, TX10, 34)) (ci := 10) rfl rfl hf (fun _ e1 => (oO_sp e1).1) (fun _ e1 => c_X10_looksAhead e1) rfl rfl hl.1 (Nat.le_of_ble_eq_true rfl) ⟨Nat.le_of_ble_eq_true rfl, Nat.le_of_ble_eq_true rfl⟩ ⟨Nat.zero_le _, Nat.zero_le _⟩ dX10_shareOf_14 (fun H locs h14 hH hf => ?_)
    refine lv_aload_n hx hb dX10_shareOf_17 rfl (lv_at hl 0 rfl) ?_
    refine lv_iload_n hx hb dX10_shareOf_18 rfl (lv_at hl 1 rfl) ?_
    refine lv_iconst (v := (1 : Int32)) hx hb dX10_shareOf_19 (by decide) ?_
    refine pg_Vi (As := [.int x1, .int (1 : Int32)]) C hH mi_X10_assistOf vl_X10_320 (q := (RX10, TX10, 34)) (ci := 10) rfl rfl hf (fun _ e1 => (oO_sp e1).1) (fun _ _ e1 => c_X10_assistOf e1) rfl rfl hl.1 (Nat.le_of_ble_eq_true rfl) ⟨Nat.le_of_ble_eq_true rfl, Nat.le_of_ble_eq_true rfl⟩ ⟨Nat.zero_le _, Nat.zero_le _⟩ dX10_shareOf_20 (fun H locs v20 h20 hH hf => ?_)
    refine lv_istore_n (lv' := [(3, .int v20), (0, .ref (gB g + a0)), (1, .int x1), (2, .int x2)]) hx hb dX10_shareOf_23 rfl hl (by decide) rfl (fun ls hl => ?_)
    refine lv_aload_n hx hb dX10_shareOf_24 rfl (lv_at hl 1 rfl) ?_
    refine lv_iload_n hx hb dX10_shareOf_25 rfl (lv_at hl 2 rfl) ?_
    refine lv_iconst (v := (0 : Int32)) hx hb dX10_shareOf_26 (by decide) ?_
    refine pg_Vi (As := [.int x1, .int (0 : Int32)]) C hH mi_X10_assistOf vl_X10_320 (q := (RX10, TX10, 34)) (ci := 10) rfl rfl hf (fun _ e1 => (oO_sp e1).1) (fun _ _ e1 => c_X10_assistOf e1) rfl rfl hl.1 (Nat.le_of_ble_eq_true rfl) ⟨Nat.le_of_ble_eq_true rfl, Nat.le_of_ble_eq_true rfl⟩ ⟨Nat.zero_le _, Nat.zero_le _⟩ dX10_shareOf_27 (fun H locs v27 h27 hH hf => ?_)
    refine lv_istore (lv' := [(4, .int v27), (3, .int v20), (0, .ref (gB g + a0)), (1, .int x1), (2, .int x2)]) hx hb dX10_shareOf_30 hl (by decide) rfl (fun ls hl => ?_)
    refine lv_iload_n hx hb dX10_shareOf_32 rfl (lv_at hl 1 rfl) ?_
    refine lv_if_ne (tgt := 50) hx hb dX10_shareOf_33 (by decide) (fun cn => ?_) (fun cn => ?_)
    · have hf := (if_neg cn).symm.trans hf
      refine lv_iload_n hx hb dX10_shareOf_50 rfl (lv_at hl 1 rfl) ?_
      refine lv_aload_n hx hb dX10_shareOf_51 rfl (lv_at hl 2 rfl) ?_
      refine pg_gI C hH fl_X10_307 hf dX10_shareOf_52 (fun v52 hf => ?_)
      refine lv_icmp_le (tgt := 67) hx hb dX10_shareOf_55 (by decide) (fun cn => ?_) (fun cn => ?_)
      · have hf := (if_pos cn).symm.trans hf
        refine lv_iconst (v := (0 : Int32)) hx hb dX10_shareOf_67 (by decide) ?_
        exact wX10_shareOf_b68 C hr hH hf (lv_sub hl [2, 4, 1, 0] rfl)
      · have hf := (if_neg cn).symm.trans hf
        refine lv_iload_n hx hb dX10_shareOf_58 rfl (lv_at hl 1 rfl) ?_
        refine lv_aload_n hx hb dX10_shareOf_59 rfl (lv_at hl 2 rfl) ?_
        refine pg_gI C hH fl_X10_307 hf dX10_shareOf_60 (fun v60 hf => ?_)
        refine lv_isub hx hb dX10_shareOf_63 ?_
        refine lv_goto (tgt := 68) hx hb dX10_shareOf_64 (by decide) ?_
        exact wX10_shareOf_b68 C hr hH hf (lv_sub hl [2, 4, 1, 0] rfl)
    · have hf := (if_pos cn).symm.trans hf
      refine lv_aload_n hx hb dX10_shareOf_36 rfl (lv_at hl 2 rfl) ?_
      refine pg_gI C hH fl_X10_310 hf dX10_shareOf_37 (fun v37 hf => ?_)
      refine lv_if_ne (tgt := 48) hx hb dX10_shareOf_40 (by decide) (fun cn => ?_) (fun cn => ?_)
      · have hf := (if_neg cn).symm.trans hf
        refine lv_iconst (v := (0 : Int32)) hx hb dX10_shareOf_48 (by decide) ?_
        exact pg_iret C hr hH hf dX10_shareOf_49
      · have hf := (if_pos cn).symm.trans hf
        refine lv_iload hx hb dX10_shareOf_43 (lv_at hl 0 rfl) ?_
        refine lv_goto (tgt := 49) hx hb dX10_shareOf_45 (by decide) ?_
        exact pg_iret C hr hH hf dX10_shareOf_49
  · have hf := (if_pos cn).symm.trans hf
    refine lv_iconst (v := (0 : Int32)) hx hb dX10_shareOf_9 (by decide) ?_
    exact pg_iret C hr hH hf dX10_shareOf_10
set_option maxHeartbeats 4000000 in
set_option maxRecDepth 100000 in
theorem wX10_sharesOf_b4 {r4 : PH → Nat → Int32 → Int32 → Int32 → Option (Int32 × PH)} {r : Int32} {h' : PH} (C : CT g RX10 cX10_sharesOf 4 (Cond.code yX10_sharesOf cX10_sharesOf 4 (some .int) :: TB) p s m args meth c) (hr : meth.sig.returnType = some .int) (k4 : ∀ {h : PH} {a0 : Nat} {x1 : Int32} {x2 : Int32} {x3 : Int32} {H : Heap} {locs : List Loc} {ls : Array Slot}, HS g s H locs h → r4 h a0 x1 x2 x3 = some (r, h') → lv_has ls 4 [(0, .ref (gB g + a0)), (1, .int x1), (2, .int x2), (3, .int x3)] → W p l e (rmD 4 0 0) s m args below meth c H locs 0 0 (MQ below (QcI g r h') args s 0 0 (aB g)) (F0 m 4 ls [])) {h : PH} {a0 : Nat} {x1 : Int32} {x2 : Int32} {x3 : Int32} {H : Heap} {locs : List Loc} {ls : Array Slot} (hH : HS g s H locs h) (hf : mX10_sharesOf_b4 r4 h a0 x1 x2 x3 = some (r, h')) (hl : lv_has ls 4 [(0, .ref (gB g + a0)), (1, .int x1), (2, .int x2), (3, .int x3)]) : W p l e (rmD 4 0 0) s m args below meth c H locs 0 0 (MQ below (QcI g r h') args s 0 0 (aB g)) (F0 m 4 ls []) := by
  obtain ⟨⟨hx, hb, hml, hown, hts⟩, htb, hlk, hkk, hbs⟩ := id C
  unfold mX10_sharesOf_b4 at hf
  refine lv_iload_n hx hb dX10_sharesOf_4 rfl (lv_at hl 3 rfl) ?_
  refine lv_aload_n hx hb dX10_sharesOf_5 rfl (lv_at hl 0 rfl) ?_
  refine pg_gR C hH fl_X10_13 hf dX10_sharesOf_6 (fun v6 hf => ?_)
  refine lv_iconst (v := (2 : Int32)) hx hb dX10_sharesOf_9 (by decide) ?_
  refine pg_aI C hH hf dX10_sharesOf_10 (fun v10 hf => ?_)
  refine lv_icmp_ge (tgt := 29) hx hb dX10_sharesOf_11 (by decide) (fun cn => ?_) (fun cn => ?_)
  · have hf := (if_pos cn).symm.trans hf
    refine lv_iload_n hx hb dX10_sharesOf_29 rfl (lv_at hl 2 rfl) ?_
    exact pg_iret C hr hH hf dX10_sharesOf_30
  · have hf := (if_neg cn).symm.trans hf
    refine lv_iload_n hx hb dX10_sharesOf_14 rfl (lv_at hl 2 rfl) ?_
    refine lv_aload_n hx hb dX10_sharesOf_15 rfl (lv_at hl 0 rfl) ?_
    refine lv_iload_n hx hb dX10_sharesOf_16 rfl (lv_at hl 3 rfl) ?_
    refine lv_iload_n hx hb dX10_sharesOf_17 rfl (lv_at hl 1 rfl) ?_
    refine pg_Vi (As := [.int x3, .int x1]) C hH mi_X10_shareOf vl_X10_323 (q := (RX10, TX10, 34)) (ci := 10) rfl rfl hf (fun _ e1 => (oO_sp e1).1) (fun _ _ e1 => c_X10_shareOf e1) rfl rfl hl.1 (Nat.le_of_ble_eq_true rfl) ⟨Nat.le_of_ble_eq_true rfl, Nat.le_of_ble_eq_true rfl⟩ ⟨Nat.zero_le _, Nat.zero_le _⟩ dX10_sharesOf_18 (fun H locs v18 h18 hH hf => ?_)
    refine lv_iadd hx hb dX10_sharesOf_21 ?_
    refine lv_istore_n (lv' := [(2, .int (x2 + v18)), (0, .ref (gB g + a0)), (1, .int x1), (3, .int x3)]) hx hb dX10_sharesOf_22 rfl hl (by decide) rfl (fun ls hl => ?_)
    refine lv_iinc (v := (x3 + 1)) (lv' := [(3, .int (x3 + 1)), (2, .int (x2 + v18)), (0, .ref (gB g + a0)), (1, .int x1)]) hx hb dX10_sharesOf_23 hl (k := 3) rfl rfl (by decide) rfl (fun ls hl => ?_)
    refine lv_goto (tgt := 4) hx hb dX10_sharesOf_26 (by decide) ?_
    exact k4 hH hf (lv_sub hl [2, 3, 1, 0] rfl)
set_option maxHeartbeats 4000000 in
set_option maxRecDepth 100000 in
theorem wX10_sharesOf_L4 {r : Int32} {h' : PH} (C : CT g RX10 cX10_sharesOf 4 (Cond.code yX10_sharesOf cX10_sharesOf 4 (some .int) :: TB) p s m args meth c) (hr : meth.sig.returnType = some .int) : ∀ (n : Nat) {h : PH} {a0 : Nat} {x1 : Int32} {x2 : Int32} {x3 : Int32} {H : Heap} {locs : List Loc} {ls : Array Slot}, HS g s H locs h → mX10_sharesOf_L4 n h a0 x1 x2 x3 = some (r, h') → lv_has ls 4 [(0, .ref (gB g + a0)), (1, .int x1), (2, .int x2), (3, .int x3)] → W p l e (rmD 4 0 0) s m args below meth c H locs 0 0 (MQ below (QcI g r h') args s 0 0 (aB g)) (F0 m 4 ls []) := by
  intro n
  induction n with
  | zero =>
    intro h a0 x1 x2 x3 H locs ls hH hf hl
    exact absurd hf (by intro z; cases z)
  | succ n ih =>
    intro h a0 x1 x2 x3 H locs ls hH hf hl
    have hf : mX10_sharesOf_b4 (mX10_sharesOf_L4 n) h a0 x1 x2 x3 = some (r, h') := hf
    exact wX10_sharesOf_b4 C hr (fun a b c => ih a b c) hH hf hl
set_option maxHeartbeats 4000000 in
set_option maxRecDepth 100000 in
theorem c_X10_sharesOf {l : Launch} {g : GD} {h : PH} {a0 : Nat} {x1 : Int32} {r : Int32} {h' : PH} (hf : mX10_sharesOf h a0 x1 = some (r, h')) : Met l yX10_sharesOf (Cond.code yX10_sharesOf cX10_sharesOf 4 (some .int) :: TB) (rmD 4 0 0) (PcH g [.ref (gB g + a0), .int x1] h) (QcI g r h') 0 0 (aB g) := by
  refine Met.ofW (cc := cX10_sharesOf) (maxL := 4) (ret := some .int) (by decide) rfl ?_
  intro p e s m args below meth c s₁ B hml hv
  obtain ⟨rfl, hH0, hkk0⟩ := hv
  have C : CT g RX10 cX10_sharesOf 4 (Cond.code yX10_sharesOf cX10_sharesOf 4 (some .int) :: TB) p s m _ meth c := pg_ct (Tw := []) B hml hH0 hkk0
  have hr := B.returns
  have hH : HS g s s.heap [] h := ⟨hH0, va_S.rf⟩
  have hl := lv_entry ([.ref (gB g + a0), .int x1]) (n := 4) (Nat.le_of_ble_eq_true rfl)
  rw [lg_entry_eq]
  generalize (lg_sl ([.ref (gB g + a0), .int x1]) ++ List.replicate (4 - (lg_sl ([.ref (gB g + a0), .int x1])).length) Slot.unset).toArray = ls at hl ⊢
  have hl : lv_has ls 4 [(0, .ref (gB g + a0)), (1, .int x1)] := hl
  show W p l e (rmD 4 0 0) _ _ _ _ _ _ _ _ _ _ _ _
  unfold mX10_sharesOf at hf
  obtain ⟨hO, hf⟩ := oO_sp hf
  obtain ⟨⟨hx, hb, hml, hown, hts⟩, htb, hlk, hkk, hbs⟩ := id C
  refine lv_iconst (v := (0 : Int32)) hx hb dX10_sharesOf_0 (by decide) ?_
  refine lv_istore_n (lv' := [(2, .int (0 : Int32)), (0, .ref (gB g + a0)), (1, .int x1)]) hx hb dX10_sharesOf_1 rfl hl (by decide) rfl (fun ls hl => ?_)
  refine lv_iconst (v := (0 : Int32)) hx hb dX10_sharesOf_2 (by decide) ?_
  refine lv_istore_n (lv' := [(3, .int (0 : Int32)), (2, .int (0 : Int32)), (0, .ref (gB g + a0)), (1, .int x1)]) hx hb dX10_sharesOf_3 rfl hl (by decide) rfl (fun ls hl => ?_)
  exact wX10_sharesOf_L4 C hr FU hH hf (lv_sub hl [2, 3, 1, 0] rfl)
set_option maxHeartbeats 4000000 in
set_option maxRecDepth 100000 in
theorem c_X10_assist {l : Launch} {g : GD} {h : PH} {a0 : Nat} {x1 : Int32} {x2 : Int32} {r : Int32} {h' : PH} (hf : mX10_assist h a0 x1 x2 = some (r, h')) : Met l yX10_assist (Cond.code yX10_assist cX10_assist 3 (some .int) :: TB) (rmD 1 0 0) (PcH g [.ref (gB g + a0), .int x1, .int x2] h) (QcI g r h') 0 0 (aB g) := by
  refine Met.ofW (cc := cX10_assist) (maxL := 3) (ret := some .int) (by decide) rfl ?_
  intro p e s m args below meth c s₁ B hml hv
  obtain ⟨rfl, hH0, hkk0⟩ := hv
  have C : CT g RX10 cX10_assist 3 (Cond.code yX10_assist cX10_assist 3 (some .int) :: TB) p s m _ meth c := pg_ct (Tw := []) B hml hH0 hkk0
  have hr := B.returns
  have hH : HS g s s.heap [] h := ⟨hH0, va_S.rf⟩
  have hl := lv_entry ([.ref (gB g + a0), .int x1, .int x2]) (n := 3) (Nat.le_of_ble_eq_true rfl)
  rw [lg_entry_eq]
  generalize (lg_sl ([.ref (gB g + a0), .int x1, .int x2]) ++ List.replicate (3 - (lg_sl ([.ref (gB g + a0), .int x1, .int x2])).length) Slot.unset).toArray = ls at hl ⊢
  have hl : lv_has ls 3 [(0, .ref (gB g + a0)), (1, .int x1), (2, .int x2)] := hl
  show W p l e (rmD 1 0 0) _ _ _ _ _ _ _ _ _ _ _ _
  unfold mX10_assist at hf
  obtain ⟨hO, hf⟩ := oO_sp hf
  obtain ⟨⟨hx, hb, hml, hown, hts⟩, htb, hlk, hkk, hbs⟩ := id C
  refine lv_aload_n hx hb dX10_assist_0 rfl (lv_at hl 0 rfl) ?_
  refine lv_iconst (v := (0 : Int32)) hx hb dX10_assist_1 (by decide) ?_
  refine pg_pI C hH fl_X10_1 fm_10_0 hf dX10_assist_2 (fun H locs h2 hH hf => ?_)
  refine lv_aload_n hx hb dX10_assist_5 rfl (lv_at hl 0 rfl) ?_
  refine pg_gR C hH fl_X10_13 hf dX10_assist_6 (fun v6 hf => ?_)
  refine lv_iconst (v := (2 : Int32)) hx hb dX10_assist_9 (by decide) ?_
  refine pg_aI C hH hf dX10_assist_10 (fun v10 hf => ?_)
  refine lv_iload_n hx hb dX10_assist_11 rfl (lv_at hl 1 rfl) ?_
  refine pg_Si (As := [.int v10, .int x1]) C hH mi_X10_isIn sl_X10_278 hf (fun _ _ e1 => c_X10_isIn e1) rfl rfl hl.1 (Nat.le_of_ble_eq_true rfl) ⟨Nat.le_of_ble_eq_true rfl, Nat.le_of_ble_eq_true rfl⟩ ⟨Nat.zero_le _, Nat.zero_le _⟩ dX10_assist_12 (fun H locs v12 h12 hH hf => ?_)
  refine lv_if_eq (tgt := 37) hx hb dX10_assist_15 (by decide) (fun cn => ?_) (fun cn => ?_)
  · have hf := (if_pos cn).symm.trans hf
    refine lv_iconst (v := (-1 : Int32)) hx hb dX10_assist_37 (by decide) ?_
    exact pg_iret C hr hH hf dX10_assist_38
  · have hf := (if_neg cn).symm.trans hf
    refine lv_iload_n hx hb dX10_assist_18 rfl (lv_at hl 2 rfl) ?_
    refine lv_i2l (v := (Int32.toInt64 x2)) hx hb dX10_assist_19 rfl ?_
    refine lv_lconst (v := (0 : Int64)) hx hb dX10_assist_20 (by decide) ?_
    refine lv_lconst (v := (1 : Int64)) hx hb dX10_assist_21 (by decide) ?_
    refine pg_Si (As := [.long (Int32.toInt64 x2), .long (0 : Int64), .long (1 : Int64)]) C hH mi_X10_within sl_X10_97 hf (fun _ _ e1 => c_X10_within e1) rfl rfl hl.1 (Nat.le_of_ble_eq_true rfl) ⟨Nat.le_of_ble_eq_true rfl, Nat.le_of_ble_eq_true rfl⟩ ⟨Nat.zero_le _, Nat.zero_le _⟩ dX10_assist_22 (fun H locs v22 h22 hH hf => ?_)
    refine lv_if_eq (tgt := 37) hx hb dX10_assist_25 (by decide) (fun cn => ?_) (fun cn => ?_)
    · have hf := (if_pos cn).symm.trans hf
      refine lv_iconst (v := (-1 : Int32)) hx hb dX10_assist_37 (by decide) ?_
      exact pg_iret C hr hH hf dX10_assist_38
    · have hf := (if_neg cn).symm.trans hf
      refine lv_aload_n hx hb dX10_assist_28 rfl (lv_at hl 0 rfl) ?_
      refine lv_iload_n hx hb dX10_assist_29 rfl (lv_at hl 1 rfl) ?_
      refine lv_iload_n hx hb dX10_assist_30 rfl (lv_at hl 2 rfl) ?_
      refine pg_Vi (As := [.int x1, .int x2]) C hH mi_X10_assistOf vl_X10_320 (q := (RX10, TX10, 34)) (ci := 10) rfl rfl hf (fun _ e1 => (oO_sp e1).1) (fun _ _ e1 => c_X10_assistOf e1) rfl rfl hl.1 (Nat.le_of_ble_eq_true rfl) ⟨Nat.le_of_ble_eq_true rfl, Nat.le_of_ble_eq_true rfl⟩ ⟨Nat.zero_le _, Nat.zero_le _⟩ dX10_assist_31 (fun H locs v31 h31 hH hf => ?_)
      refine lv_goto (tgt := 38) hx hb dX10_assist_34 (by decide) ?_
      exact pg_iret C hr hH hf dX10_assist_38
set_option maxHeartbeats 4000000 in
set_option maxRecDepth 100000 in
theorem c_X10_share {l : Launch} {g : GD} {h : PH} {a0 : Nat} {x1 : Int32} {x2 : Int32} {r : Int32} {h' : PH} (hf : mX10_share h a0 x1 x2 = some (r, h')) : Met l yX10_share (Cond.code yX10_share cX10_share 3 (some .int) :: TB) (rmD 4 0 0) (PcH g [.ref (gB g + a0), .int x1, .int x2] h) (QcI g r h') 0 0 (aB g) := by
  refine Met.ofW (cc := cX10_share) (maxL := 3) (ret := some .int) (by decide) rfl ?_
  intro p e s m args below meth c s₁ B hml hv
  obtain ⟨rfl, hH0, hkk0⟩ := hv
  have C : CT g RX10 cX10_share 3 (Cond.code yX10_share cX10_share 3 (some .int) :: TB) p s m _ meth c := pg_ct (Tw := []) B hml hH0 hkk0
  have hr := B.returns
  have hH : HS g s s.heap [] h := ⟨hH0, va_S.rf⟩
  have hl := lv_entry ([.ref (gB g + a0), .int x1, .int x2]) (n := 3) (Nat.le_of_ble_eq_true rfl)
  rw [lg_entry_eq]
  generalize (lg_sl ([.ref (gB g + a0), .int x1, .int x2]) ++ List.replicate (3 - (lg_sl ([.ref (gB g + a0), .int x1, .int x2])).length) Slot.unset).toArray = ls at hl ⊢
  have hl : lv_has ls 3 [(0, .ref (gB g + a0)), (1, .int x1), (2, .int x2)] := hl
  show W p l e (rmD 4 0 0) _ _ _ _ _ _ _ _ _ _ _ _
  unfold mX10_share at hf
  obtain ⟨hO, hf⟩ := oO_sp hf
  obtain ⟨⟨hx, hb, hml, hown, hts⟩, htb, hlk, hkk, hbs⟩ := id C
  refine lv_aload_n hx hb dX10_share_0 rfl (lv_at hl 0 rfl) ?_
  refine lv_iconst (v := (0 : Int32)) hx hb dX10_share_1 (by decide) ?_
  refine pg_pI C hH fl_X10_1 fm_10_0 hf dX10_share_2 (fun H locs h2 hH hf => ?_)
  refine lv_aload_n hx hb dX10_share_5 rfl (lv_at hl 0 rfl) ?_
  refine pg_gR C hH fl_X10_13 hf dX10_share_6 (fun v6 hf => ?_)
  refine lv_iconst (v := (2 : Int32)) hx hb dX10_share_9 (by decide) ?_
  refine pg_aI C hH hf dX10_share_10 (fun v10 hf => ?_)
  refine lv_iload_n hx hb dX10_share_11 rfl (lv_at hl 1 rfl) ?_
  refine pg_Si (As := [.int v10, .int x1]) C hH mi_X10_isIn sl_X10_278 hf (fun _ _ e1 => c_X10_isIn e1) rfl rfl hl.1 (Nat.le_of_ble_eq_true rfl) ⟨Nat.le_of_ble_eq_true rfl, Nat.le_of_ble_eq_true rfl⟩ ⟨Nat.zero_le _, Nat.zero_le _⟩ dX10_share_12 (fun H locs v12 h12 hH hf => ?_)
  refine lv_if_eq (tgt := 35) hx hb dX10_share_15 (by decide) (fun cn => ?_) (fun cn => ?_)
  · have hf := (if_pos cn).symm.trans hf
    refine lv_iconst (v := (-1 : Int32)) hx hb dX10_share_35 (by decide) ?_
    exact pg_iret C hr hH hf dX10_share_36
  · have hf := (if_neg cn).symm.trans hf
    refine lv_aload_n hx hb dX10_share_18 rfl (lv_at hl 0 rfl) ?_
    refine lv_iload_n hx hb dX10_share_19 rfl (lv_at hl 2 rfl) ?_
    refine pg_Vi (As := [.int x2]) C hH mi_X10_isSale vl_X10_288 (q := (RX10, TX10, 34)) (ci := 10) rfl rfl hf (fun _ e1 => (oO_sp e1).1) (fun _ _ e1 => c_X10_isSale e1) rfl rfl hl.1 (Nat.le_of_ble_eq_true rfl) ⟨Nat.le_of_ble_eq_true rfl, Nat.le_of_ble_eq_true rfl⟩ ⟨Nat.zero_le _, Nat.zero_le _⟩ dX10_share_20 (fun H locs v20 h20 hH hf => ?_)
    refine lv_if_eq (tgt := 35) hx hb dX10_share_23 (by decide) (fun cn => ?_) (fun cn => ?_)
    · have hf := (if_pos cn).symm.trans hf
      refine lv_iconst (v := (-1 : Int32)) hx hb dX10_share_35 (by decide) ?_
      exact pg_iret C hr hH hf dX10_share_36
    · have hf := (if_neg cn).symm.trans hf
      refine lv_aload_n hx hb dX10_share_26 rfl (lv_at hl 0 rfl) ?_
      refine lv_iload_n hx hb dX10_share_27 rfl (lv_at hl 1 rfl) ?_
      refine lv_iload_n hx hb dX10_share_28 rfl (lv_at hl 2 rfl) ?_
      refine pg_Vi (As := [.int x1, .int x2]) C hH mi_X10_shareOf vl_X10_323 (q := (RX10, TX10, 34)) (ci := 10) rfl rfl hf (fun _ e1 => (oO_sp e1).1) (fun _ _ e1 => c_X10_shareOf e1) rfl rfl hl.1 (Nat.le_of_ble_eq_true rfl) ⟨Nat.le_of_ble_eq_true rfl, Nat.le_of_ble_eq_true rfl⟩ ⟨Nat.zero_le _, Nat.zero_le _⟩ dX10_share_29 (fun H locs v29 h29 hH hf => ?_)
      refine lv_goto (tgt := 36) hx hb dX10_share_32 (by decide) ?_
      exact pg_iret C hr hH hf dX10_share_36
set_option maxHeartbeats 4000000 in
set_option maxRecDepth 100000 in
theorem wX10_rest_b29 {r29 : PH → Nat → Int32 → Int32 → Int32 → Option (Int32 × PH)} {r : Int32} {h' : PH} (C : CT g RX10 cX10_rest 4 (Cond.code yX10_rest cX10_rest 4 (some .int) :: TB) p s m args meth c) (hr : meth.sig.returnType = some .int) (k29 : ∀ {h : PH} {a0 : Nat} {x1 : Int32} {x2 : Int32} {x3 : Int32} {H : Heap} {locs : List Loc} {ls : Array Slot}, HS g s H locs h → r29 h a0 x1 x2 x3 = some (r, h') → lv_has ls 4 [(0, .ref (gB g + a0)), (1, .int x1), (2, .int x2), (3, .int x3)] → W p l e (rmD 4 0 0) s m args below meth c H locs 0 0 (MQ below (QcI g r h') args s 0 0 (aB g)) (F0 m 29 ls [])) {h : PH} {a0 : Nat} {x1 : Int32} {x2 : Int32} {x3 : Int32} {H : Heap} {locs : List Loc} {ls : Array Slot} (hH : HS g s H locs h) (hf : mX10_rest_b29 r29 h a0 x1 x2 x3 = some (r, h')) (hl : lv_has ls 4 [(0, .ref (gB g + a0)), (1, .int x1), (2, .int x2), (3, .int x3)]) : W p l e (rmD 4 0 0) s m args below meth c H locs 0 0 (MQ below (QcI g r h') args s 0 0 (aB g)) (F0 m 29 ls []) := by
  obtain ⟨⟨hx, hb, hml, hown, hts⟩, htb, hlk, hkk, hbs⟩ := id C
  unfold mX10_rest_b29 at hf
  refine lv_iload_n hx hb dX10_rest_29 rfl (lv_at hl 3 rfl) ?_
  refine lv_aload_n hx hb dX10_rest_30 rfl (lv_at hl 0 rfl) ?_
  refine pg_gR C hH fl_X10_13 hf dX10_rest_31 (fun v31 hf => ?_)
  refine lv_iconst (v := (3 : Int32)) hx hb dX10_rest_34 (by decide) ?_
  refine pg_aI C hH hf dX10_rest_35 (fun v35 hf => ?_)
  refine lv_icmp_ge (tgt := 54) hx hb dX10_rest_36 (by decide) (fun cn => ?_) (fun cn => ?_)
  · have hf := (if_pos cn).symm.trans hf
    refine lv_iload_n hx hb dX10_rest_54 rfl (lv_at hl 2 rfl) ?_
    exact pg_iret C hr hH hf dX10_rest_55
  · have hf := (if_neg cn).symm.trans hf
    refine lv_iload_n hx hb dX10_rest_39 rfl (lv_at hl 2 rfl) ?_
    refine lv_aload_n hx hb dX10_rest_40 rfl (lv_at hl 0 rfl) ?_
    refine lv_iload_n hx hb dX10_rest_41 rfl (lv_at hl 1 rfl) ?_
    refine lv_iload_n hx hb dX10_rest_42 rfl (lv_at hl 3 rfl) ?_
    refine pg_Vi (As := [.int x1, .int x3]) C hH mi_X10_shareOf vl_X10_323 (q := (RX10, TX10, 34)) (ci := 10) rfl rfl hf (fun _ e1 => (oO_sp e1).1) (fun _ _ e1 => c_X10_shareOf e1) rfl rfl hl.1 (Nat.le_of_ble_eq_true rfl) ⟨Nat.le_of_ble_eq_true rfl, Nat.le_of_ble_eq_true rfl⟩ ⟨Nat.zero_le _, Nat.zero_le _⟩ dX10_rest_43 (fun H locs v43 h43 hH hf => ?_)
    refine lv_isub hx hb dX10_rest_46 ?_
    refine lv_istore_n (lv' := [(2, .int (x2 - v43)), (0, .ref (gB g + a0)), (1, .int x1), (3, .int x3)]) hx hb dX10_rest_47 rfl hl (by decide) rfl (fun ls hl => ?_)
    refine lv_iinc (v := (x3 + 1)) (lv' := [(3, .int (x3 + 1)), (2, .int (x2 - v43)), (0, .ref (gB g + a0)), (1, .int x1)]) hx hb dX10_rest_48 hl (k := 3) rfl rfl (by decide) rfl (fun ls hl => ?_)
    refine lv_goto (tgt := 29) hx hb dX10_rest_51 (by decide) ?_
    exact k29 hH hf (lv_sub hl [2, 3, 1, 0] rfl)
set_option maxHeartbeats 4000000 in
set_option maxRecDepth 100000 in
theorem wX10_rest_L29 {r : Int32} {h' : PH} (C : CT g RX10 cX10_rest 4 (Cond.code yX10_rest cX10_rest 4 (some .int) :: TB) p s m args meth c) (hr : meth.sig.returnType = some .int) : ∀ (n : Nat) {h : PH} {a0 : Nat} {x1 : Int32} {x2 : Int32} {x3 : Int32} {H : Heap} {locs : List Loc} {ls : Array Slot}, HS g s H locs h → mX10_rest_L29 n h a0 x1 x2 x3 = some (r, h') → lv_has ls 4 [(0, .ref (gB g + a0)), (1, .int x1), (2, .int x2), (3, .int x3)] → W p l e (rmD 4 0 0) s m args below meth c H locs 0 0 (MQ below (QcI g r h') args s 0 0 (aB g)) (F0 m 29 ls []) := by
  intro n
  induction n with
  | zero =>
    intro h a0 x1 x2 x3 H locs ls hH hf hl
    exact absurd hf (by intro z; cases z)
  | succ n ih =>
    intro h a0 x1 x2 x3 H locs ls hH hf hl
    have hf : mX10_rest_b29 (mX10_rest_L29 n) h a0 x1 x2 x3 = some (r, h') := hf
    exact wX10_rest_b29 C hr (fun a b c => ih a b c) hH hf hl
set_option maxHeartbeats 4000000 in
set_option maxRecDepth 100000 in
theorem c_X10_rest {l : Launch} {g : GD} {h : PH} {a0 : Nat} {x1 : Int32} {r : Int32} {h' : PH} (hf : mX10_rest h a0 x1 = some (r, h')) : Met l yX10_rest (Cond.code yX10_rest cX10_rest 4 (some .int) :: TB) (rmD 4 0 0) (PcH g [.ref (gB g + a0), .int x1] h) (QcI g r h') 0 0 (aB g) := by
  refine Met.ofW (cc := cX10_rest) (maxL := 4) (ret := some .int) (by decide) rfl ?_
  intro p e s m args below meth c s₁ B hml hv
  obtain ⟨rfl, hH0, hkk0⟩ := hv
  have C : CT g RX10 cX10_rest 4 (Cond.code yX10_rest cX10_rest 4 (some .int) :: TB) p s m _ meth c := pg_ct (Tw := []) B hml hH0 hkk0
  have hr := B.returns
  have hH : HS g s s.heap [] h := ⟨hH0, va_S.rf⟩
  have hl := lv_entry ([.ref (gB g + a0), .int x1]) (n := 4) (Nat.le_of_ble_eq_true rfl)
  rw [lg_entry_eq]
  generalize (lg_sl ([.ref (gB g + a0), .int x1]) ++ List.replicate (4 - (lg_sl ([.ref (gB g + a0), .int x1])).length) Slot.unset).toArray = ls at hl ⊢
  have hl : lv_has ls 4 [(0, .ref (gB g + a0)), (1, .int x1)] := hl
  show W p l e (rmD 4 0 0) _ _ _ _ _ _ _ _ _ _ _ _
  unfold mX10_rest at hf
  obtain ⟨hO, hf⟩ := oO_sp hf
  obtain ⟨⟨hx, hb, hml, hown, hts⟩, htb, hlk, hkk, hbs⟩ := id C
  refine lv_aload_n hx hb dX10_rest_0 rfl (lv_at hl 0 rfl) ?_
  refine lv_iconst (v := (0 : Int32)) hx hb dX10_rest_1 (by decide) ?_
  refine pg_pI C hH fl_X10_1 fm_10_0 hf dX10_rest_2 (fun H locs h2 hH hf => ?_)
  refine lv_aload_n hx hb dX10_rest_5 rfl (lv_at hl 0 rfl) ?_
  refine pg_gR C hH fl_X10_13 hf dX10_rest_6 (fun v6 hf => ?_)
  refine lv_iconst (v := (2 : Int32)) hx hb dX10_rest_9 (by decide) ?_
  refine pg_aI C hH hf dX10_rest_10 (fun v10 hf => ?_)
  refine lv_iload_n hx hb dX10_rest_11 rfl (lv_at hl 1 rfl) ?_
  refine pg_Si (As := [.int v10, .int x1]) C hH mi_X10_isIn sl_X10_278 hf (fun _ _ e1 => c_X10_isIn e1) rfl rfl hl.1 (Nat.le_of_ble_eq_true rfl) ⟨Nat.le_of_ble_eq_true rfl, Nat.le_of_ble_eq_true rfl⟩ ⟨Nat.zero_le _, Nat.zero_le _⟩ dX10_rest_12 (fun H locs v12 h12 hH hf => ?_)
  refine lv_if_ne (tgt := 20) hx hb dX10_rest_15 (by decide) (fun cn => ?_) (fun cn => ?_)
  · have hf := (if_neg cn).symm.trans hf
    refine lv_aload_n hx hb dX10_rest_20 rfl (lv_at hl 0 rfl) ?_
    refine lv_iload_n hx hb dX10_rest_21 rfl (lv_at hl 1 rfl) ?_
    refine lv_iconst (v := (0 : Int32)) hx hb dX10_rest_22 (by decide) ?_
    refine pg_Vi (As := [.int x1, .int (0 : Int32)]) C hH mi_X10_assistOf vl_X10_320 (q := (RX10, TX10, 34)) (ci := 10) rfl rfl hf (fun _ e1 => (oO_sp e1).1) (fun _ _ e1 => c_X10_assistOf e1) rfl rfl hl.1 (Nat.le_of_ble_eq_true rfl) ⟨Nat.le_of_ble_eq_true rfl, Nat.le_of_ble_eq_true rfl⟩ ⟨Nat.zero_le _, Nat.zero_le _⟩ dX10_rest_23 (fun H locs v23 h23 hH hf => ?_)
    refine lv_istore_n (lv' := [(2, .int v23), (0, .ref (gB g + a0)), (1, .int x1)]) hx hb dX10_rest_26 rfl hl (by decide) rfl (fun ls hl => ?_)
    refine lv_iconst (v := (0 : Int32)) hx hb dX10_rest_27 (by decide) ?_
    refine lv_istore_n (lv' := [(3, .int (0 : Int32)), (2, .int v23), (0, .ref (gB g + a0)), (1, .int x1)]) hx hb dX10_rest_28 rfl hl (by decide) rfl (fun ls hl => ?_)
    exact wX10_rest_L29 C hr FU hH hf (lv_sub hl [2, 3, 1, 0] rfl)
  · have hf := (if_pos cn).symm.trans hf
    refine lv_iconst (v := (-1 : Int32)) hx hb dX10_rest_18 (by decide) ?_
    exact pg_iret C hr hH hf dX10_rest_19
set_option maxHeartbeats 4000000 in
set_option maxRecDepth 100000 in
theorem c_X10_ownAt {l : Launch} {g : GD} {h : PH} {a0 : Nat} {x1 : Int32} {x2 : Int32} {r : Int64} {h' : PH} (hf : mX10_ownAt h a0 x1 x2 = some (r, h')) : Met l yX10_ownAt (Cond.code yX10_ownAt cX10_ownAt 5 (some .long) :: TB) (rmD 5 0 0) (PcH g [.ref (gB g + a0), .int x1, .int x2] h) (QcL g r h') 0 0 (aB g) := by
  refine Met.ofW (cc := cX10_ownAt) (maxL := 5) (ret := some .long) (by decide) rfl ?_
  intro p e s m args below meth c s₁ B hml hv
  obtain ⟨rfl, hH0, hkk0⟩ := hv
  have C : CT g RX10 cX10_ownAt 5 (Cond.code yX10_ownAt cX10_ownAt 5 (some .long) :: TB) p s m _ meth c := pg_ct (Tw := []) B hml hH0 hkk0
  have hr := B.returns
  have hH : HS g s s.heap [] h := ⟨hH0, va_S.rf⟩
  have hl := lv_entry ([.ref (gB g + a0), .int x1, .int x2]) (n := 5) (Nat.le_of_ble_eq_true rfl)
  rw [lg_entry_eq]
  generalize (lg_sl ([.ref (gB g + a0), .int x1, .int x2]) ++ List.replicate (5 - (lg_sl ([.ref (gB g + a0), .int x1, .int x2])).length) Slot.unset).toArray = ls at hl ⊢
  have hl : lv_has ls 5 [(0, .ref (gB g + a0)), (1, .int x1), (2, .int x2)] := hl
  show W p l e (rmD 5 0 0) _ _ _ _ _ _ _ _ _ _ _ _
  unfold mX10_ownAt at hf
  obtain ⟨hO, hf⟩ := oO_sp hf
  obtain ⟨⟨hx, hb, hml, hown, hts⟩, htb, hlk, hkk, hbs⟩ := id C
  refine lv_iload_n hx hb dX10_ownAt_0 rfl (lv_at hl 2 rfl) ?_
  refine lv_i2l (v := (Int32.toInt64 x2)) hx hb dX10_ownAt_1 rfl ?_
  refine lv_aload_n hx hb dX10_ownAt_2 rfl (lv_at hl 0 rfl) ?_
  refine lv_iload_n hx hb dX10_ownAt_3 rfl (lv_at hl 1 rfl) ?_
  refine lv_iconst (v := (3 : Int32)) hx hb dX10_ownAt_4 (by decide) ?_
  refine pg_Vi (As := [.int x1, .int (3 : Int32)]) C hH mi_X10_of vl_X10_281 (q := (RX10, TX10, 34)) (ci := 10) rfl rfl hf (fun _ e1 => (oO_sp e1).1) (fun _ _ e1 => c_X10_of e1) rfl rfl hl.1 (Nat.le_of_ble_eq_true rfl) ⟨Nat.le_of_ble_eq_true rfl, Nat.le_of_ble_eq_true rfl⟩ ⟨Nat.zero_le _, Nat.zero_le _⟩ dX10_ownAt_5 (fun H locs v5 h5 hH hf => ?_)
  refine lv_i2l (v := (Int32.toInt64 v5)) hx hb dX10_ownAt_8 rfl ?_
  refine lv_lmul hx hb dX10_ownAt_9 ?_
  refine lv_lstore_n (lv' := [(3, .long ((Int32.toInt64 x2) * (Int32.toInt64 v5))), (0, .ref (gB g + a0)), (1, .int x1), (2, .int x2)]) hx hb dX10_ownAt_10 rfl hl (by decide) rfl (fun ls hl => ?_)
  refine lv_lload_n hx hb dX10_ownAt_11 rfl (lv_at hl 0 rfl) ?_
  refine lv_lload_n hx hb dX10_ownAt_12 rfl (lv_at hl 0 rfl) ?_
  refine lv_aload_n hx hb dX10_ownAt_13 rfl (lv_at hl 1 rfl) ?_
  refine lv_iload_n hx hb dX10_ownAt_14 rfl (lv_at hl 2 rfl) ?_
  refine lv_bipush (v := (7 : Int32)) hx hb dX10_ownAt_15 (by decide) ?_
  refine pg_Vi (As := [.int x1, .int (7 : Int32)]) C hH mi_X10_of vl_X10_281 (q := (RX10, TX10, 34)) (ci := 10) rfl rfl hf (fun _ e1 => (oO_sp e1).1) (fun _ _ e1 => c_X10_of e1) rfl rfl hl.1 (Nat.le_of_ble_eq_true rfl) ⟨Nat.le_of_ble_eq_true rfl, Nat.le_of_ble_eq_true rfl⟩ ⟨Nat.zero_le _, Nat.zero_le _⟩ dX10_ownAt_17 (fun H locs v17 h17 hH hf => ?_)
  refine lv_i2l (v := (Int32.toInt64 v17)) hx hb dX10_ownAt_20 rfl ?_
  refine lv_lmul hx hb dX10_ownAt_21 ?_
  refine lv_ldc2 (v := (100 : Int64)) hx hb hown (hts _ (htb _ kl_X10_326)) dX10_ownAt_22 ?_
  refine lv_ldiv hx hb dX10_ownAt_25 (by decide) ?_
  refine lv_ladd hx hb dX10_ownAt_26 ?_
  refine lv_aload_n hx hb dX10_ownAt_27 rfl (lv_at hl 1 rfl) ?_
  refine lv_iload_n hx hb dX10_ownAt_28 rfl (lv_at hl 2 rfl) ?_
  refine lv_bipush (v := (8 : Int32)) hx hb dX10_ownAt_29 (by decide) ?_
  refine pg_Vi (As := [.int x1, .int (8 : Int32)]) C hH mi_X10_of vl_X10_281 (q := (RX10, TX10, 34)) (ci := 10) rfl rfl hf (fun _ e1 => (oO_sp e1).1) (fun _ _ e1 => c_X10_of e1) rfl rfl hl.1 (Nat.le_of_ble_eq_true rfl) ⟨Nat.le_of_ble_eq_true rfl, Nat.le_of_ble_eq_true rfl⟩ ⟨Nat.zero_le _, Nat.zero_le _⟩ dX10_ownAt_31 (fun H locs v31 h31 hH hf => ?_)
  refine lv_i2l (v := (Int32.toInt64 v31)) hx hb dX10_ownAt_34 rfl ?_
  refine lv_ladd hx hb dX10_ownAt_35 ?_
  refine lv_aload_n hx hb dX10_ownAt_36 rfl (lv_at hl 1 rfl) ?_
  refine lv_iload_n hx hb dX10_ownAt_37 rfl (lv_at hl 2 rfl) ?_
  refine lv_bipush (v := (9 : Int32)) hx hb dX10_ownAt_38 (by decide) ?_
  refine pg_Vi (As := [.int x1, .int (9 : Int32)]) C hH mi_X10_of vl_X10_281 (q := (RX10, TX10, 34)) (ci := 10) rfl rfl hf (fun _ e1 => (oO_sp e1).1) (fun _ _ e1 => c_X10_of e1) rfl rfl hl.1 (Nat.le_of_ble_eq_true rfl) ⟨Nat.le_of_ble_eq_true rfl, Nat.le_of_ble_eq_true rfl⟩ ⟨Nat.zero_le _, Nat.zero_le _⟩ dX10_ownAt_40 (fun H locs v40 h40 hH hf => ?_)
  refine lv_i2l (v := (Int32.toInt64 v40)) hx hb dX10_ownAt_43 rfl ?_
  refine lv_ladd hx hb dX10_ownAt_44 ?_
  refine lv_aload_n hx hb dX10_ownAt_45 rfl (lv_at hl 1 rfl) ?_
  refine lv_iload_n hx hb dX10_ownAt_46 rfl (lv_at hl 2 rfl) ?_
  refine lv_bipush (v := (10 : Int32)) hx hb dX10_ownAt_47 (by decide) ?_
  refine pg_Vi (As := [.int x1, .int (10 : Int32)]) C hH mi_X10_of vl_X10_281 (q := (RX10, TX10, 34)) (ci := 10) rfl rfl hf (fun _ e1 => (oO_sp e1).1) (fun _ _ e1 => c_X10_of e1) rfl rfl hl.1 (Nat.le_of_ble_eq_true rfl) ⟨Nat.le_of_ble_eq_true rfl, Nat.le_of_ble_eq_true rfl⟩ ⟨Nat.zero_le _, Nat.zero_le _⟩ dX10_ownAt_49 (fun H locs v49 h49 hH hf => ?_)
  refine lv_i2l (v := (Int32.toInt64 v49)) hx hb dX10_ownAt_52 rfl ?_
  refine lv_ladd hx hb dX10_ownAt_53 ?_
  refine lv_aload_n hx hb dX10_ownAt_54 rfl (lv_at hl 1 rfl) ?_
  refine lv_iload_n hx hb dX10_ownAt_55 rfl (lv_at hl 2 rfl) ?_
  refine pg_Vi (As := [.int x1]) C hH mi_X10_sharesOf vl_X10_328 (q := (RX10, TX10, 34)) (ci := 10) rfl rfl hf (fun _ e1 => (oO_sp e1).1) (fun _ _ e1 => c_X10_sharesOf e1) rfl rfl hl.1 (Nat.le_of_ble_eq_true rfl) ⟨Nat.le_of_ble_eq_true rfl, Nat.le_of_ble_eq_true rfl⟩ ⟨Nat.zero_le _, Nat.zero_le _⟩ dX10_ownAt_56 (fun H locs v56 h56 hH hf => ?_)
  refine lv_i2l (v := (Int32.toInt64 v56)) hx hb dX10_ownAt_59 rfl ?_
  refine lv_ladd hx hb dX10_ownAt_60 ?_
  exact pg_lret C hr hH hf dX10_ownAt_61
set_option maxHeartbeats 4000000 in
set_option maxRecDepth 100000 in
theorem c_X10_ownOf {l : Launch} {g : GD} {h : PH} {a0 : Nat} {x1 : Int32} {r : Int64} {h' : PH} (hf : mX10_ownOf h a0 x1 = some (r, h')) : Met l yX10_ownOf (Cond.code yX10_ownOf cX10_ownOf 2 (some .long) :: TB) (rmD 6 0 0) (PcH g [.ref (gB g + a0), .int x1] h) (QcL g r h') 0 0 (aB g) := by
  refine Met.ofW (cc := cX10_ownOf) (maxL := 2) (ret := some .long) (by decide) rfl ?_
  intro p e s m args below meth c s₁ B hml hv
  obtain ⟨rfl, hH0, hkk0⟩ := hv
  have C : CT g RX10 cX10_ownOf 2 (Cond.code yX10_ownOf cX10_ownOf 2 (some .long) :: TB) p s m _ meth c := pg_ct (Tw := []) B hml hH0 hkk0
  have hr := B.returns
  have hH : HS g s s.heap [] h := ⟨hH0, va_S.rf⟩
  have hl := lv_entry ([.ref (gB g + a0), .int x1]) (n := 2) (Nat.le_of_ble_eq_true rfl)
  rw [lg_entry_eq]
  generalize (lg_sl ([.ref (gB g + a0), .int x1]) ++ List.replicate (2 - (lg_sl ([.ref (gB g + a0), .int x1])).length) Slot.unset).toArray = ls at hl ⊢
  have hl : lv_has ls 2 [(0, .ref (gB g + a0)), (1, .int x1)] := hl
  show W p l e (rmD 6 0 0) _ _ _ _ _ _ _ _ _ _ _ _
  unfold mX10_ownOf at hf
  obtain ⟨hO, hf⟩ := oO_sp hf
  obtain ⟨⟨hx, hb, hml, hown, hts⟩, htb, hlk, hkk, hbs⟩ := id C
  refine lv_aload_n hx hb dX10_ownOf_0 rfl (lv_at hl 0 rfl) ?_
  refine lv_iload_n hx hb dX10_ownOf_1 rfl (lv_at hl 1 rfl) ?_
  refine lv_aload_n hx hb dX10_ownOf_2 rfl (lv_at hl 0 rfl) ?_
  refine lv_iload_n hx hb dX10_ownOf_3 rfl (lv_at hl 1 rfl) ?_
  refine lv_iconst (v := (4 : Int32)) hx hb dX10_ownOf_4 (by decide) ?_
  refine pg_Vi (As := [.int x1, .int (4 : Int32)]) C hH mi_X10_of vl_X10_281 (q := (RX10, TX10, 34)) (ci := 10) rfl rfl hf (fun _ e1 => (oO_sp e1).1) (fun _ _ e1 => c_X10_of e1) rfl rfl hl.1 (Nat.le_of_ble_eq_true rfl) ⟨Nat.le_of_ble_eq_true rfl, Nat.le_of_ble_eq_true rfl⟩ ⟨Nat.zero_le _, Nat.zero_le _⟩ dX10_ownOf_5 (fun H locs v5 h5 hH hf => ?_)
  refine pg_Vl (As := [.int x1, .int v5]) C hH mi_X10_ownAt vl_X10_331 (q := (RX10, TX10, 34)) (ci := 10) rfl rfl hf (fun _ e1 => (oO_sp e1).1) (fun _ _ e1 => c_X10_ownAt e1) rfl rfl hl.1 (Nat.le_of_ble_eq_true rfl) ⟨Nat.le_of_ble_eq_true rfl, Nat.le_of_ble_eq_true rfl⟩ ⟨Nat.zero_le _, Nat.zero_le _⟩ dX10_ownOf_8 (fun H locs v8 h8 hH hf => ?_)
  exact pg_lret C hr hH hf dX10_ownOf_11
set_option maxHeartbeats 4000000 in
set_option maxRecDepth 100000 in
theorem c_X10_own {l : Launch} {g : GD} {h : PH} {a0 : Nat} {x1 : Int32} {r : Int64} {h' : PH} (hf : mX10_own h a0 x1 = some (r, h')) : Met l yX10_own (Cond.code yX10_own cX10_own 2 (some .long) :: TB) (rmD 7 0 0) (PcH g [.ref (gB g + a0), .int x1] h) (QcL g r h') 0 0 (aB g) := by
  refine Met.ofW (cc := cX10_own) (maxL := 2) (ret := some .long) (by decide) rfl ?_
  intro p e s m args below meth c s₁ B hml hv
  obtain ⟨rfl, hH0, hkk0⟩ := hv
  have C : CT g RX10 cX10_own 2 (Cond.code yX10_own cX10_own 2 (some .long) :: TB) p s m _ meth c := pg_ct (Tw := []) B hml hH0 hkk0
  have hr := B.returns
  have hH : HS g s s.heap [] h := ⟨hH0, va_S.rf⟩
  have hl := lv_entry ([.ref (gB g + a0), .int x1]) (n := 2) (Nat.le_of_ble_eq_true rfl)
  rw [lg_entry_eq]
  generalize (lg_sl ([.ref (gB g + a0), .int x1]) ++ List.replicate (2 - (lg_sl ([.ref (gB g + a0), .int x1])).length) Slot.unset).toArray = ls at hl ⊢
  have hl : lv_has ls 2 [(0, .ref (gB g + a0)), (1, .int x1)] := hl
  show W p l e (rmD 7 0 0) _ _ _ _ _ _ _ _ _ _ _ _
  unfold mX10_own at hf
  obtain ⟨hO, hf⟩ := oO_sp hf
  obtain ⟨⟨hx, hb, hml, hown, hts⟩, htb, hlk, hkk, hbs⟩ := id C
  refine lv_aload_n hx hb dX10_own_0 rfl (lv_at hl 0 rfl) ?_
  refine lv_iconst (v := (0 : Int32)) hx hb dX10_own_1 (by decide) ?_
  refine pg_pI C hH fl_X10_1 fm_10_0 hf dX10_own_2 (fun H locs h2 hH hf => ?_)
  refine lv_aload_n hx hb dX10_own_5 rfl (lv_at hl 0 rfl) ?_
  refine lv_iload_n hx hb dX10_own_6 rfl (lv_at hl 1 rfl) ?_
  refine pg_Vi (As := [.int x1]) C hH mi_X10_isSale vl_X10_288 (q := (RX10, TX10, 34)) (ci := 10) rfl rfl hf (fun _ e1 => (oO_sp e1).1) (fun _ _ e1 => c_X10_isSale e1) rfl rfl hl.1 (Nat.le_of_ble_eq_true rfl) ⟨Nat.le_of_ble_eq_true rfl, Nat.le_of_ble_eq_true rfl⟩ ⟨Nat.zero_le _, Nat.zero_le _⟩ dX10_own_7 (fun H locs v7 h7 hH hf => ?_)
  refine lv_if_eq (tgt := 21) hx hb dX10_own_10 (by decide) (fun cn => ?_) (fun cn => ?_)
  · have hf := (if_pos cn).symm.trans hf
    refine lv_ldc2 (v := (-1 : Int64)) hx hb hown (hts _ (htb _ kl_X10_339)) dX10_own_21 ?_
    exact pg_lret C hr hH hf dX10_own_24
  · have hf := (if_neg cn).symm.trans hf
    refine lv_aload_n hx hb dX10_own_13 rfl (lv_at hl 0 rfl) ?_
    refine lv_iload_n hx hb dX10_own_14 rfl (lv_at hl 1 rfl) ?_
    refine pg_Vl (As := [.int x1]) C hH mi_X10_ownOf vl_X10_335 (q := (RX10, TX10, 34)) (ci := 10) rfl rfl hf (fun _ e1 => (oO_sp e1).1) (fun _ _ e1 => c_X10_ownOf e1) rfl rfl hl.1 (Nat.le_of_ble_eq_true rfl) ⟨Nat.le_of_ble_eq_true rfl, Nat.le_of_ble_eq_true rfl⟩ ⟨Nat.zero_le _, Nat.zero_le _⟩ dX10_own_15 (fun H locs v15 h15 hH hf => ?_)
    refine lv_goto (tgt := 24) hx hb dX10_own_18 (by decide) ?_
    exact pg_lret C hr hH hf dX10_own_24
set_option maxHeartbeats 4000000 in
set_option maxRecDepth 100000 in
theorem c_X10_isBetweenKin {l : Launch} {g : GD} {h : PH} {a0 : Nat} {x1 : Int32} {r : Int32} {h' : PH} (hf : mX10_isBetweenKin h a0 x1 = some (r, h')) : Met l yX10_isBetweenKin (Cond.code yX10_isBetweenKin cX10_isBetweenKin 2 (some .boolean) :: TB) (rmD 2 0 0) (PcH g [.ref (gB g + a0), .int x1] h) (QcI g r h') 0 0 (aB g) := by
  refine Met.ofW (cc := cX10_isBetweenKin) (maxL := 2) (ret := some .boolean) (by decide) rfl ?_
  intro p e s m args below meth c s₁ B hml hv
  obtain ⟨rfl, hH0, hkk0⟩ := hv
  have C : CT g RX10 cX10_isBetweenKin 2 (Cond.code yX10_isBetweenKin cX10_isBetweenKin 2 (some .boolean) :: TB) p s m _ meth c := pg_ct (Tw := []) B hml hH0 hkk0
  have hr := B.returns
  have hH : HS g s s.heap [] h := ⟨hH0, va_S.rf⟩
  have hl := lv_entry ([.ref (gB g + a0), .int x1]) (n := 2) (Nat.le_of_ble_eq_true rfl)
  rw [lg_entry_eq]
  generalize (lg_sl ([.ref (gB g + a0), .int x1]) ++ List.replicate (2 - (lg_sl ([.ref (gB g + a0), .int x1])).length) Slot.unset).toArray = ls at hl ⊢
  have hl : lv_has ls 2 [(0, .ref (gB g + a0)), (1, .int x1)] := hl
  show W p l e (rmD 2 0 0) _ _ _ _ _ _ _ _ _ _ _ _
  unfold mX10_isBetweenKin at hf
  obtain ⟨hO, hf⟩ := oO_sp hf
  obtain ⟨⟨hx, hb, hml, hown, hts⟩, htb, hlk, hkk, hbs⟩ := id C
  refine lv_aload_n hx hb dX10_isBetweenKin_0 rfl (lv_at hl 0 rfl) ?_
  refine lv_aload_n hx hb dX10_isBetweenKin_1 rfl (lv_at hl 0 rfl) ?_
  refine lv_iload_n hx hb dX10_isBetweenKin_2 rfl (lv_at hl 1 rfl) ?_
  refine lv_iconst (v := (1 : Int32)) hx hb dX10_isBetweenKin_3 (by decide) ?_
  refine pg_Vi (As := [.int x1, .int (1 : Int32)]) C hH mi_X10_of vl_X10_281 (q := (RX10, TX10, 34)) (ci := 10) rfl rfl hf (fun _ e1 => (oO_sp e1).1) (fun _ _ e1 => c_X10_of e1) rfl rfl hl.1 (Nat.le_of_ble_eq_true rfl) ⟨Nat.le_of_ble_eq_true rfl, Nat.le_of_ble_eq_true rfl⟩ ⟨Nat.zero_le _, Nat.zero_le _⟩ dX10_isBetweenKin_4 (fun H locs v4 h4 hH hf => ?_)
  refine lv_aload_n hx hb dX10_isBetweenKin_7 rfl (lv_at hl 0 rfl) ?_
  refine lv_iload_n hx hb dX10_isBetweenKin_8 rfl (lv_at hl 1 rfl) ?_
  refine lv_iconst (v := (2 : Int32)) hx hb dX10_isBetweenKin_9 (by decide) ?_
  refine pg_Vi (As := [.int x1, .int (2 : Int32)]) C hH mi_X10_of vl_X10_281 (q := (RX10, TX10, 34)) (ci := 10) rfl rfl hf (fun _ e1 => (oO_sp e1).1) (fun _ _ e1 => c_X10_of e1) rfl rfl hl.1 (Nat.le_of_ble_eq_true rfl) ⟨Nat.le_of_ble_eq_true rfl, Nat.le_of_ble_eq_true rfl⟩ ⟨Nat.zero_le _, Nat.zero_le _⟩ dX10_isBetweenKin_10 (fun H locs v10 h10 hH hf => ?_)
  refine pg_Vi (As := [.int v4, .int v10]) C hH mi_X10_areKin vl_X10_295 (q := (RX10, TX10, 34)) (ci := 10) rfl rfl hf (fun _ e1 => (oO_sp e1).1) (fun _ _ e1 => c_X10_areKin e1) rfl rfl hl.1 (Nat.le_of_ble_eq_true rfl) ⟨Nat.le_of_ble_eq_true rfl, Nat.le_of_ble_eq_true rfl⟩ ⟨Nat.zero_le _, Nat.zero_le _⟩ dX10_isBetweenKin_13 (fun H locs v13 h13 hH hf => ?_)
  exact pg_zret C hr hH hf dX10_isBetweenKin_16
set_option maxHeartbeats 4000000 in
set_option maxRecDepth 100000 in
theorem c_X10_isNearDay {l : Launch} {g : GD} {h : PH} {a0 : Nat} {x1 : Int32} {x2 : Int32} {r : Int32} {h' : PH} (hf : mX10_isNearDay h a0 x1 x2 = some (r, h')) : Met l yX10_isNearDay (Cond.code yX10_isNearDay cX10_isNearDay 4 (some .boolean) :: TB) (rmD 1 0 0) (PcH g [.ref (gB g + a0), .int x1, .int x2] h) (QcI g r h') 0 0 (aB g) := by
  refine Met.ofW (cc := cX10_isNearDay) (maxL := 4) (ret := some .boolean) (by decide) rfl ?_
  intro p e s m args below meth c s₁ B hml hv
  obtain ⟨rfl, hH0, hkk0⟩ := hv
  have C : CT g RX10 cX10_isNearDay 4 (Cond.code yX10_isNearDay cX10_isNearDay 4 (some .boolean) :: TB) p s m _ meth c := pg_ct (Tw := []) B hml hH0 hkk0
  have hr := B.returns
  have hH : HS g s s.heap [] h := ⟨hH0, va_S.rf⟩
  have hl := lv_entry ([.ref (gB g + a0), .int x1, .int x2]) (n := 4) (Nat.le_of_ble_eq_true rfl)
  rw [lg_entry_eq]
  generalize (lg_sl ([.ref (gB g + a0), .int x1, .int x2]) ++ List.replicate (4 - (lg_sl ([.ref (gB g + a0), .int x1, .int x2])).length) Slot.unset).toArray = ls at hl ⊢
  have hl : lv_has ls 4 [(0, .ref (gB g + a0)), (1, .int x1), (2, .int x2)] := hl
  show W p l e (rmD 1 0 0) _ _ _ _ _ _ _ _ _ _ _ _
  unfold mX10_isNearDay at hf
  obtain ⟨hO, hf⟩ := oO_sp hf
  obtain ⟨⟨hx, hb, hml, hown, hts⟩, htb, hlk, hkk, hbs⟩ := id C
  refine lv_aload_n hx hb dX10_isNearDay_0 rfl (lv_at hl 0 rfl) ?_
  refine lv_iload_n hx hb dX10_isNearDay_1 rfl (lv_at hl 1 rfl) ?_
  refine lv_iconst (v := (5 : Int32)) hx hb dX10_isNearDay_2 (by decide) ?_
  refine pg_Vi (As := [.int x1, .int (5 : Int32)]) C hH mi_X10_of vl_X10_281 (q := (RX10, TX10, 34)) (ci := 10) rfl rfl hf (fun _ e1 => (oO_sp e1).1) (fun _ _ e1 => c_X10_of e1) rfl rfl hl.1 (Nat.le_of_ble_eq_true rfl) ⟨Nat.le_of_ble_eq_true rfl, Nat.le_of_ble_eq_true rfl⟩ ⟨Nat.zero_le _, Nat.zero_le _⟩ dX10_isNearDay_3 (fun H locs v3 h3 hH hf => ?_)
  refine lv_aload_n hx hb dX10_isNearDay_6 rfl (lv_at hl 0 rfl) ?_
  refine lv_iload_n hx hb dX10_isNearDay_7 rfl (lv_at hl 2 rfl) ?_
  refine lv_iconst (v := (5 : Int32)) hx hb dX10_isNearDay_8 (by decide) ?_
  refine pg_Vi (As := [.int x2, .int (5 : Int32)]) C hH mi_X10_of vl_X10_281 (q := (RX10, TX10, 34)) (ci := 10) rfl rfl hf (fun _ e1 => (oO_sp e1).1) (fun _ _ e1 => c_X10_of e1) rfl rfl hl.1 (Nat.le_of_ble_eq_true rfl) ⟨Nat.le_of_ble_eq_true rfl, Nat.le_of_ble_eq_true rfl⟩ ⟨Nat.zero_le _, Nat.zero_le _⟩ dX10_isNearDay_9 (fun H locs v9 h9 hH hf => ?_)
  refine lv_isub hx hb dX10_isNearDay_12 ?_
  refine lv_istore_n (lv' := [(3, .int (v3 - v9)), (0, .ref (gB g + a0)), (1, .int x1), (2, .int x2)]) hx hb dX10_isNearDay_13 rfl hl (by decide) rfl (fun ls hl => ?_)
  refine lv_iload_n hx hb dX10_isNearDay_14 rfl (lv_at hl 0 rfl) ?_
  refine lv_aload_n hx hb dX10_isNearDay_15 rfl (lv_at hl 1 rfl) ?_
  refine pg_gR C hH fl_X10_13 hf dX10_isNearDay_16 (fun v16 hf => ?_)
  refine lv_bipush (v := (7 : Int32)) hx hb dX10_isNearDay_19 (by decide) ?_
  refine pg_aI C hH hf dX10_isNearDay_21 (fun v21 hf => ?_)
  refine lv_icmp_gt (tgt := 41) hx hb dX10_isNearDay_22 (by decide) (fun cn => ?_) (fun cn => ?_)
  · have hf := (if_pos cn).symm.trans hf
    refine lv_iconst (v := (0 : Int32)) hx hb dX10_isNearDay_41 (by decide) ?_
    exact pg_zret C hr hH hf dX10_isNearDay_42
  · have hf := (if_neg cn).symm.trans hf
    refine lv_iload_n hx hb dX10_isNearDay_25 rfl (lv_at hl 0 rfl) ?_
    refine lv_ineg hx hb dX10_isNearDay_26 ?_
    refine lv_aload_n hx hb dX10_isNearDay_27 rfl (lv_at hl 1 rfl) ?_
    refine pg_gR C hH fl_X10_13 hf dX10_isNearDay_28 (fun v28 hf => ?_)
    refine lv_bipush (v := (7 : Int32)) hx hb dX10_isNearDay_31 (by decide) ?_
    refine pg_aI C hH hf dX10_isNearDay_33 (fun v33 hf => ?_)
    refine lv_icmp_gt (tgt := 41) hx hb dX10_isNearDay_34 (by decide) (fun cn => ?_) (fun cn => ?_)
    · have hf := (if_pos cn).symm.trans hf
      refine lv_iconst (v := (0 : Int32)) hx hb dX10_isNearDay_41 (by decide) ?_
      exact pg_zret C hr hH hf dX10_isNearDay_42
    · have hf := (if_neg cn).symm.trans hf
      refine lv_iconst (v := (1 : Int32)) hx hb dX10_isNearDay_37 (by decide) ?_
      refine lv_goto (tgt := 42) hx hb dX10_isNearDay_38 (by decide) ?_
      exact pg_zret C hr hH hf dX10_isNearDay_42
set_option maxHeartbeats 4000000 in
set_option maxRecDepth 100000 in
theorem c_X10_likeSales {l : Launch} {g : GD} {h : PH} {a0 : Nat} {x1 : Int32} {x2 : Int32} {r : Int32} {h' : PH} (hf : mX10_likeSales h a0 x1 x2 = some (r, h')) : Met l yX10_likeSales (Cond.code yX10_likeSales cX10_likeSales 3 (some .int) :: TB) (rmD 2 0 0) (PcH g [.ref (gB g + a0), .int x1, .int x2] h) (QcI g r h') 0 0 (aB g) := by
  refine Met.ofW (cc := cX10_likeSales) (maxL := 3) (ret := some .int) (by decide) rfl ?_
  intro p e s m args below meth c s₁ B hml hv
  obtain ⟨rfl, hH0, hkk0⟩ := hv
  have C : CT g RX10 cX10_likeSales 3 (Cond.code yX10_likeSales cX10_likeSales 3 (some .int) :: TB) p s m _ meth c := pg_ct (Tw := []) B hml hH0 hkk0
  have hr := B.returns
  have hH : HS g s s.heap [] h := ⟨hH0, va_S.rf⟩
  have hl := lv_entry ([.ref (gB g + a0), .int x1, .int x2]) (n := 3) (Nat.le_of_ble_eq_true rfl)
  rw [lg_entry_eq]
  generalize (lg_sl ([.ref (gB g + a0), .int x1, .int x2]) ++ List.replicate (3 - (lg_sl ([.ref (gB g + a0), .int x1, .int x2])).length) Slot.unset).toArray = ls at hl ⊢
  have hl : lv_has ls 3 [(0, .ref (gB g + a0)), (1, .int x1), (2, .int x2)] := hl
  show W p l e (rmD 2 0 0) _ _ _ _ _ _ _ _ _ _ _ _
  unfold mX10_likeSales at hf
  obtain ⟨hO, hf⟩ := oO_sp hf
  obtain ⟨⟨hx, hb, hml, hown, hts⟩, htb, hlk, hkk, hbs⟩ := id C
  refine lv_aload_n hx hb dX10_likeSales_0 rfl (lv_at hl 0 rfl) ?_
  refine lv_aload_n hx hb dX10_likeSales_1 rfl (lv_at hl 0 rfl) ?_
  refine lv_iload_n hx hb dX10_likeSales_2 rfl (lv_at hl 1 rfl) ?_
  refine lv_iconst (v := (0 : Int32)) hx hb dX10_likeSales_3 (by decide) ?_
  refine pg_Vi (As := [.int x1, .int (0 : Int32)]) C hH mi_X10_of vl_X10_281 (q := (RX10, TX10, 34)) (ci := 10) rfl rfl hf (fun _ e1 => (oO_sp e1).1) (fun _ _ e1 => c_X10_of e1) rfl rfl hl.1 (Nat.le_of_ble_eq_true rfl) ⟨Nat.le_of_ble_eq_true rfl, Nat.le_of_ble_eq_true rfl⟩ ⟨Nat.zero_le _, Nat.zero_le _⟩ dX10_likeSales_4 (fun H locs v4 h4 hH hf => ?_)
  refine lv_aload_n hx hb dX10_likeSales_7 rfl (lv_at hl 0 rfl) ?_
  refine lv_iload_n hx hb dX10_likeSales_8 rfl (lv_at hl 2 rfl) ?_
  refine lv_iconst (v := (0 : Int32)) hx hb dX10_likeSales_9 (by decide) ?_
  refine pg_Vi (As := [.int x2, .int (0 : Int32)]) C hH mi_X10_of vl_X10_281 (q := (RX10, TX10, 34)) (ci := 10) rfl rfl hf (fun _ e1 => (oO_sp e1).1) (fun _ _ e1 => c_X10_of e1) rfl rfl hl.1 (Nat.le_of_ble_eq_true rfl) ⟨Nat.le_of_ble_eq_true rfl, Nat.le_of_ble_eq_true rfl⟩ ⟨Nat.zero_le _, Nat.zero_le _⟩ dX10_likeSales_10 (fun H locs v10 h10 hH hf => ?_)
  refine pg_Vi (As := [.int v4, .int v10]) C hH mi_X10_likeness vl_X10_301 (q := (RX10, TX10, 34)) (ci := 10) rfl rfl hf (fun _ e1 => (oO_sp e1).1) (fun _ _ e1 => c_X10_likeness e1) rfl rfl hl.1 (Nat.le_of_ble_eq_true rfl) ⟨Nat.le_of_ble_eq_true rfl, Nat.le_of_ble_eq_true rfl⟩ ⟨Nat.zero_le _, Nat.zero_le _⟩ dX10_likeSales_13 (fun H locs v13 h13 hH hf => ?_)
  exact pg_iret C hr hH hf dX10_likeSales_16
set_option maxHeartbeats 4000000 in
set_option maxRecDepth 100000 in
theorem c_X10_brought {l : Launch} {g : GD} {h : PH} {a0 : Nat} {x1 : Int32} {x2 : Int32} {r : Int64} {h' : PH} (hf : mX10_brought h a0 x1 x2 = some (r, h')) : Met l yX10_brought (Cond.code yX10_brought cX10_brought 3 (some .long) :: TB) (rmD 7 0 0) (PcH g [.ref (gB g + a0), .int x1, .int x2] h) (QcL g r h') 0 0 (aB g) := by
  refine Met.ofW (cc := cX10_brought) (maxL := 3) (ret := some .long) (by decide) rfl ?_
  intro p e s m args below meth c s₁ B hml hv
  obtain ⟨rfl, hH0, hkk0⟩ := hv
  have C : CT g RX10 cX10_brought 3 (Cond.code yX10_brought cX10_brought 3 (some .long) :: TB) p s m _ meth c := pg_ct (Tw := []) B hml hH0 hkk0
  have hr := B.returns
  have hH : HS g s s.heap [] h := ⟨hH0, va_S.rf⟩
  have hl := lv_entry ([.ref (gB g + a0), .int x1, .int x2]) (n := 3) (Nat.le_of_ble_eq_true rfl)
  rw [lg_entry_eq]
  generalize (lg_sl ([.ref (gB g + a0), .int x1, .int x2]) ++ List.replicate (3 - (lg_sl ([.ref (gB g + a0), .int x1, .int x2])).length) Slot.unset).toArray = ls at hl ⊢
  have hl : lv_has ls 3 [(0, .ref (gB g + a0)), (1, .int x1), (2, .int x2)] := hl
  show W p l e (rmD 7 0 0) _ _ _ _ _ _ _ _ _ _ _ _
  unfold mX10_brought at hf
  obtain ⟨hO, hf⟩ := oO_sp hf
  obtain ⟨⟨hx, hb, hml, hown, hts⟩, htb, hlk, hkk, hbs⟩ := id C
  refine lv_aload_n hx hb dX10_brought_0 rfl (lv_at hl 0 rfl) ?_
  refine lv_iload_n hx hb dX10_brought_1 rfl (lv_at hl 2 rfl) ?_
  refine pg_Vl (As := [.int x2]) C hH mi_X10_ownOf vl_X10_335 (q := (RX10, TX10, 34)) (ci := 10) rfl rfl hf (fun _ e1 => (oO_sp e1).1) (fun _ _ e1 => c_X10_ownOf e1) rfl rfl hl.1 (Nat.le_of_ble_eq_true rfl) ⟨Nat.le_of_ble_eq_true rfl, Nat.le_of_ble_eq_true rfl⟩ ⟨Nat.zero_le _, Nat.zero_le _⟩ dX10_brought_2 (fun H locs v2 h2 hH hf => ?_)
  refine lv_aload_n hx hb dX10_brought_5 rfl (lv_at hl 0 rfl) ?_
  refine lv_iload_n hx hb dX10_brought_6 rfl (lv_at hl 1 rfl) ?_
  refine lv_iconst (v := (3 : Int32)) hx hb dX10_brought_7 (by decide) ?_
  refine pg_Vi (As := [.int x1, .int (3 : Int32)]) C hH mi_X10_of vl_X10_281 (q := (RX10, TX10, 34)) (ci := 10) rfl rfl hf (fun _ e1 => (oO_sp e1).1) (fun _ _ e1 => c_X10_of e1) rfl rfl hl.1 (Nat.le_of_ble_eq_true rfl) ⟨Nat.le_of_ble_eq_true rfl, Nat.le_of_ble_eq_true rfl⟩ ⟨Nat.zero_le _, Nat.zero_le _⟩ dX10_brought_8 (fun H locs v8 h8 hH hf => ?_)
  refine lv_i2l (v := (Int32.toInt64 v8)) hx hb dX10_brought_11 rfl ?_
  refine lv_lmul hx hb dX10_brought_12 ?_
  refine lv_bipush (v := (100 : Int32)) hx hb dX10_brought_13 (by decide) ?_
  refine lv_aload_n hx hb dX10_brought_15 rfl (lv_at hl 0 rfl) ?_
  refine lv_iload_n hx hb dX10_brought_16 rfl (lv_at hl 1 rfl) ?_
  refine pg_Vi (As := [.int x1]) C hH mi_X10_lessOf vl_X10_341 (q := (RX10, TX10, 34)) (ci := 10) rfl rfl hf (fun _ e1 => (oO_sp e1).1) (fun _ _ e1 => c_X10_lessOf e1) rfl rfl hl.1 (Nat.le_of_ble_eq_true rfl) ⟨Nat.le_of_ble_eq_true rfl, Nat.le_of_ble_eq_true rfl⟩ ⟨Nat.zero_le _, Nat.zero_le _⟩ dX10_brought_17 (fun H locs v17 h17 hH hf => ?_)
  refine lv_isub hx hb dX10_brought_20 ?_
  refine lv_i2l (v := (Int32.toInt64 ((100 : Int32) - v17))) hx hb dX10_brought_21 rfl ?_
  refine lv_lmul hx hb dX10_brought_22 ?_
  refine lv_aload_n hx hb dX10_brought_23 rfl (lv_at hl 0 rfl) ?_
  refine lv_iload_n hx hb dX10_brought_24 rfl (lv_at hl 2 rfl) ?_
  refine lv_iconst (v := (3 : Int32)) hx hb dX10_brought_25 (by decide) ?_
  refine pg_Vi (As := [.int x2, .int (3 : Int32)]) C hH mi_X10_of vl_X10_281 (q := (RX10, TX10, 34)) (ci := 10) rfl rfl hf (fun _ e1 => (oO_sp e1).1) (fun _ _ e1 => c_X10_of e1) rfl rfl hl.1 (Nat.le_of_ble_eq_true rfl) ⟨Nat.le_of_ble_eq_true rfl, Nat.le_of_ble_eq_true rfl⟩ ⟨Nat.zero_le _, Nat.zero_le _⟩ dX10_brought_26 (fun H locs v26 h26 hH hf => ?_)
  refine lv_i2l (v := (Int32.toInt64 v26)) hx hb dX10_brought_29 rfl ?_
  refine lv_bipush (v := (100 : Int32)) hx hb dX10_brought_30 (by decide) ?_
  refine lv_aload_n hx hb dX10_brought_32 rfl (lv_at hl 0 rfl) ?_
  refine lv_iload_n hx hb dX10_brought_33 rfl (lv_at hl 2 rfl) ?_
  refine pg_Vi (As := [.int x2]) C hH mi_X10_lessOf vl_X10_341 (q := (RX10, TX10, 34)) (ci := 10) rfl rfl hf (fun _ e1 => (oO_sp e1).1) (fun _ _ e1 => c_X10_lessOf e1) rfl rfl hl.1 (Nat.le_of_ble_eq_true rfl) ⟨Nat.le_of_ble_eq_true rfl, Nat.le_of_ble_eq_true rfl⟩ ⟨Nat.zero_le _, Nat.zero_le _⟩ dX10_brought_34 (fun H locs v34 h34 hH hf => ?_)
  refine lv_isub hx hb dX10_brought_37 ?_
  refine lv_i2l (v := (Int32.toInt64 ((100 : Int32) - v34))) hx hb dX10_brought_38 rfl ?_
  refine lv_lmul hx hb dX10_brought_39 ?_
  obtain ⟨hz40, hf⟩ := dz_sp hf
  refine lv_ldiv hx hb dX10_brought_40 hz40 ?_
  exact pg_lret C hr hH hf dX10_brought_41
set_option maxHeartbeats 4000000 in
set_option maxRecDepth 100000 in
theorem c_X10_adds {l : Launch} {g : GD} {h : PH} {a0 : Nat} {x1 : Int64} {h' : PH} (hf : mX10_adds h a0 x1 = some h') : Met l yX10_adds (Cond.code yX10_adds cX10_adds 3 (none) :: TB) (rmD 0 0 0) (PcH g [.ref (gB g + a0), .long x1] h) (QcV g h') 0 0 (aB g) := by
  refine Met.ofW (cc := cX10_adds) (maxL := 3) (ret := none) (by decide) rfl ?_
  intro p e s m args below meth c s₁ B hml hv
  obtain ⟨rfl, hH0, hkk0⟩ := hv
  have C : CT g RX10 cX10_adds 3 (Cond.code yX10_adds cX10_adds 3 (none) :: TB) p s m _ meth c := pg_ct (Tw := []) B hml hH0 hkk0
  have hr := B.returns
  have hH : HS g s s.heap [] h := ⟨hH0, va_S.rf⟩
  have hl := lv_entry ([.ref (gB g + a0), .long x1]) (n := 3) (Nat.le_of_ble_eq_true rfl)
  rw [lg_entry_eq]
  generalize (lg_sl ([.ref (gB g + a0), .long x1]) ++ List.replicate (3 - (lg_sl ([.ref (gB g + a0), .long x1])).length) Slot.unset).toArray = ls at hl ⊢
  have hl : lv_has ls 3 [(0, .ref (gB g + a0)), (1, .long x1)] := hl
  show W p l e (rmD 0 0 0) _ _ _ _ _ _ _ _ _ _ _ _
  unfold mX10_adds at hf
  obtain ⟨hO, hf⟩ := oO_sp hf
  obtain ⟨⟨hx, hb, hml, hown, hts⟩, htb, hlk, hkk, hbs⟩ := id C
  refine lv_lload_n hx hb dX10_adds_0 rfl (lv_at hl 1 rfl) ?_
  refine lv_lconst (v := (0 : Int64)) hx hb dX10_adds_1 (by decide) ?_
  refine W.lcmp hx hb dX10_adds_2 ?_
  refine lv_if_lt (tgt := 26) hx hb dX10_adds_3 (by decide) (fun cn => ?_) (fun cn => ?_)
  · have hf := (if_pos ((lg_cmp_lt _ _).mp cn)).symm.trans hf
    exact pg_vret C hr hH hf dX10_adds_26
  · have hf := (if_neg (fun z => cn ((lg_cmp_lt _ _).mpr z))).symm.trans hf
    refine lv_aload_n hx hb dX10_adds_6 rfl (lv_at hl 0 rfl) ?_
    refine pg_gR C hH fl_X10_50 hf dX10_adds_7 (fun v7 hf => ?_)
    refine lv_aload_n hx hb dX10_adds_10 rfl (lv_at hl 0 rfl) ?_
    refine pg_gI C hH fl_X10_344 hf dX10_adds_11 (fun v11 hf => ?_)
    refine lv_lload_n hx hb dX10_adds_14 rfl (lv_at hl 1 rfl) ?_
    refine pg_sL C hH hf dX10_adds_15 (fun H locs h15 hH hf => ?_)
    refine lv_aload_n hx hb dX10_adds_16 rfl (lv_at hl 0 rfl) ?_
    refine lv_dup hx hb dX10_adds_17 rfl ?_
    refine pg_gI C hH fl_X10_344 hf dX10_adds_18 (fun v18 hf => ?_)
    refine lv_iconst (v := (1 : Int32)) hx hb dX10_adds_21 (by decide) ?_
    refine lv_iadd hx hb dX10_adds_22 ?_
    refine pg_pI C hH fl_X10_344 fm_10_27 hf dX10_adds_23 (fun H locs h23 hH hf => ?_)
    exact pg_vret C hr hH hf dX10_adds_26
set_option maxHeartbeats 4000000 in
set_option maxRecDepth 100000 in
theorem c_X10_row {l : Launch} {g : GD} {h : PH} {a0 : Nat} {x1 : Int32} {x2 : Int32} {r : Int32} {h' : PH} (hf : mX10_row h a0 x1 x2 = some (r, h')) : Met l yX10_row (Cond.code yX10_row cX10_row 3 (some .int) :: TB) (rmD 0 0 0) (PcH g [.ref (gB g + a0), .int x1, .int x2] h) (QcI g r h') 0 0 (aB g) := by
  refine Met.ofW (cc := cX10_row) (maxL := 3) (ret := some .int) (by decide) rfl ?_
  intro p e s m args below meth c s₁ B hml hv
  obtain ⟨rfl, hH0, hkk0⟩ := hv
  have C : CT g RX10 cX10_row 3 (Cond.code yX10_row cX10_row 3 (some .int) :: TB) p s m _ meth c := pg_ct (Tw := []) B hml hH0 hkk0
  have hr := B.returns
  have hH : HS g s s.heap [] h := ⟨hH0, va_S.rf⟩
  have hl := lv_entry ([.ref (gB g + a0), .int x1, .int x2]) (n := 3) (Nat.le_of_ble_eq_true rfl)
  rw [lg_entry_eq]
  generalize (lg_sl ([.ref (gB g + a0), .int x1, .int x2]) ++ List.replicate (3 - (lg_sl ([.ref (gB g + a0), .int x1, .int x2])).length) Slot.unset).toArray = ls at hl ⊢
  have hl : lv_has ls 3 [(0, .ref (gB g + a0)), (1, .int x1), (2, .int x2)] := hl
  show W p l e (rmD 0 0 0) _ _ _ _ _ _ _ _ _ _ _ _
  unfold mX10_row at hf
  obtain ⟨hO, hf⟩ := oO_sp hf
  obtain ⟨⟨hx, hb, hml, hown, hts⟩, htb, hlk, hkk, hbs⟩ := id C
  refine lv_aload_n hx hb dX10_row_0 rfl (lv_at hl 0 rfl) ?_
  refine pg_gR C hH fl_X10_13 hf dX10_row_1 (fun v1 hf => ?_)
  refine lv_sipush (v := (176 : Int32)) hx hb dX10_row_4 (by decide) ?_
  refine lv_iconst (v := (4 : Int32)) hx hb dX10_row_7 (by decide) ?_
  refine lv_iload_n hx hb dX10_row_8 rfl (lv_at hl 1 rfl) ?_
  refine lv_imul hx hb dX10_row_9 ?_
  refine lv_iadd hx hb dX10_row_10 ?_
  refine lv_iload_n hx hb dX10_row_11 rfl (lv_at hl 2 rfl) ?_
  refine lv_iadd hx hb dX10_row_12 ?_
  refine pg_aI C hH hf dX10_row_13 (fun v13 hf => ?_)
  exact pg_iret C hr hH hf dX10_row_14
set_option maxHeartbeats 4000000 in
set_option maxRecDepth 100000 in
theorem c_X10_isRowFor {l : Launch} {g : GD} {h : PH} {a0 : Nat} {x1 : Int32} {x2 : Int32} {x3 : Int32} {r : Int32} {h' : PH} (hf : mX10_isRowFor h a0 x1 x2 x3 = some (r, h')) : Met l yX10_isRowFor (Cond.code yX10_isRowFor cX10_isRowFor 5 (some .boolean) :: TB) (rmD 2 0 0) (PcH g [.ref (gB g + a0), .int x1, .int x2, .int x3] h) (QcI g r h') 0 0 (aB g) := by
  refine Met.ofW (cc := cX10_isRowFor) (maxL := 5) (ret := some .boolean) (by decide) rfl ?_
  intro p e s m args below meth c s₁ B hml hv
  obtain ⟨rfl, hH0, hkk0⟩ := hv
  have C : CT g RX10 cX10_isRowFor 5 (Cond.code yX10_isRowFor cX10_isRowFor 5 (some .boolean) :: TB) p s m _ meth c := pg_ct (Tw := []) B hml hH0 hkk0
  have hr := B.returns
  have hH : HS g s s.heap [] h := ⟨hH0, va_S.rf⟩
  have hl := lv_entry ([.ref (gB g + a0), .int x1, .int x2, .int x3]) (n := 5) (Nat.le_of_ble_eq_true rfl)
  rw [lg_entry_eq]
  generalize (lg_sl ([.ref (gB g + a0), .int x1, .int x2, .int x3]) ++ List.replicate (5 - (lg_sl ([.ref (gB g + a0), .int x1, .int x2, .int x3])).length) Slot.unset).toArray = ls at hl ⊢
  have hl : lv_has ls 5 [(0, .ref (gB g + a0)), (1, .int x1), (2, .int x2), (3, .int x3)] := hl
  show W p l e (rmD 2 0 0) _ _ _ _ _ _ _ _ _ _ _ _
  unfold mX10_isRowFor at hf
  obtain ⟨hO, hf⟩ := oO_sp hf
  obtain ⟨⟨hx, hb, hml, hown, hts⟩, htb, hlk, hkk, hbs⟩ := id C
  refine lv_aload_n hx hb dX10_isRowFor_0 rfl (lv_at hl 0 rfl) ?_
  refine lv_iload_n hx hb dX10_isRowFor_1 rfl (lv_at hl 2 rfl) ?_
  refine lv_iconst (v := (3 : Int32)) hx hb dX10_isRowFor_2 (by decide) ?_
  refine pg_Vi (As := [.int x2, .int (3 : Int32)]) C hH mi_X10_row vl_X10_394 (q := (RX10, TX10, 34)) (ci := 10) rfl rfl hf (fun _ e1 => (oO_sp e1).1) (fun _ _ e1 => c_X10_row e1) rfl rfl hl.1 (Nat.le_of_ble_eq_true rfl) ⟨Nat.le_of_ble_eq_true rfl, Nat.le_of_ble_eq_true rfl⟩ ⟨Nat.zero_le _, Nat.zero_le _⟩ dX10_isRowFor_3 (fun H locs v3 h3 hH hf => ?_)
  refine lv_aload_n hx hb dX10_isRowFor_6 rfl (lv_at hl 0 rfl) ?_
  refine lv_iload_n hx hb dX10_isRowFor_7 rfl (lv_at hl 1 rfl) ?_
  refine lv_iconst (v := (5 : Int32)) hx hb dX10_isRowFor_8 (by decide) ?_
  refine pg_Vi (As := [.int x1, .int (5 : Int32)]) C hH mi_X10_of vl_X10_281 (q := (RX10, TX10, 34)) (ci := 10) rfl rfl hf (fun _ e1 => (oO_sp e1).1) (fun _ _ e1 => c_X10_of e1) rfl rfl hl.1 (Nat.le_of_ble_eq_true rfl) ⟨Nat.le_of_ble_eq_true rfl, Nat.le_of_ble_eq_true rfl⟩ ⟨Nat.zero_le _, Nat.zero_le _⟩ dX10_isRowFor_9 (fun H locs v9 h9 hH hf => ?_)
  refine lv_isub hx hb dX10_isRowFor_12 ?_
  refine lv_istore (lv' := [(4, .int (v3 - v9)), (0, .ref (gB g + a0)), (1, .int x1), (2, .int x2), (3, .int x3)]) hx hb dX10_isRowFor_13 hl (by decide) rfl (fun ls hl => ?_)
  refine lv_aload_n hx hb dX10_isRowFor_15 rfl (lv_at hl 1 rfl) ?_
  refine lv_aload_n hx hb dX10_isRowFor_16 rfl (lv_at hl 1 rfl) ?_
  refine lv_iload_n hx hb dX10_isRowFor_17 rfl (lv_at hl 2 rfl) ?_
  refine lv_iconst (v := (0 : Int32)) hx hb dX10_isRowFor_18 (by decide) ?_
  refine pg_Vi (As := [.int x1, .int (0 : Int32)]) C hH mi_X10_of vl_X10_281 (q := (RX10, TX10, 34)) (ci := 10) rfl rfl hf (fun _ e1 => (oO_sp e1).1) (fun _ _ e1 => c_X10_of e1) rfl rfl hl.1 (Nat.le_of_ble_eq_true rfl) ⟨Nat.le_of_ble_eq_true rfl, Nat.le_of_ble_eq_true rfl⟩ ⟨Nat.zero_le _, Nat.zero_le _⟩ dX10_isRowFor_19 (fun H locs v19 h19 hH hf => ?_)
  refine lv_aload_n hx hb dX10_isRowFor_22 rfl (lv_at hl 1 rfl) ?_
  refine lv_iload_n hx hb dX10_isRowFor_23 rfl (lv_at hl 3 rfl) ?_
  refine lv_iconst (v := (0 : Int32)) hx hb dX10_isRowFor_24 (by decide) ?_
  refine pg_Vi (As := [.int x2, .int (0 : Int32)]) C hH mi_X10_row vl_X10_394 (q := (RX10, TX10, 34)) (ci := 10) rfl rfl hf (fun _ e1 => (oO_sp e1).1) (fun _ _ e1 => c_X10_row e1) rfl rfl hl.1 (Nat.le_of_ble_eq_true rfl) ⟨Nat.le_of_ble_eq_true rfl, Nat.le_of_ble_eq_true rfl⟩ ⟨Nat.zero_le _, Nat.zero_le _⟩ dX10_isRowFor_25 (fun H locs v25 h25 hH hf => ?_)
  refine pg_Vi (As := [.int v19, .int v25]) C hH mi_X10_likeness vl_X10_301 (q := (RX10, TX10, 34)) (ci := 10) rfl rfl hf (fun _ e1 => (oO_sp e1).1) (fun _ _ e1 => c_X10_likeness e1) rfl rfl hl.1 (Nat.le_of_ble_eq_true rfl) ⟨Nat.le_of_ble_eq_true rfl, Nat.le_of_ble_eq_true rfl⟩ ⟨Nat.zero_le _, Nat.zero_le _⟩ dX10_isRowFor_28 (fun H locs v28 h28 hH hf => ?_)
  refine lv_iload_n hx hb dX10_isRowFor_31 rfl (lv_at hl 4 rfl) ?_
  refine lv_icmp_ne (tgt := 58) hx hb dX10_isRowFor_32 (by decide) (fun cn => ?_) (fun cn => ?_)
  · have hf := (if_neg cn).symm.trans hf
    refine lv_iconst (v := (0 : Int32)) hx hb dX10_isRowFor_58 (by decide) ?_
    exact pg_zret C hr hH hf dX10_isRowFor_59
  · have hf := (if_pos cn).symm.trans hf
    refine lv_iload hx hb dX10_isRowFor_35 (lv_at hl 0 rfl) ?_
    refine lv_if_lt (tgt := 58) hx hb dX10_isRowFor_37 (by decide) (fun cn => ?_) (fun cn => ?_)
    · have hf := (if_pos cn).symm.trans hf
      refine lv_iconst (v := (0 : Int32)) hx hb dX10_isRowFor_58 (by decide) ?_
      exact pg_zret C hr hH hf dX10_isRowFor_59
    · have hf := (if_neg cn).symm.trans hf
      refine lv_iload hx hb dX10_isRowFor_40 (lv_at hl 0 rfl) ?_
      refine lv_iconst (v := (3 : Int32)) hx hb dX10_isRowFor_42 (by decide) ?_
      refine lv_aload_n hx hb dX10_isRowFor_43 rfl (lv_at hl 1 rfl) ?_
      refine pg_gR C hH fl_X10_13 hf dX10_isRowFor_44 (fun v44 hf => ?_)
      refine lv_bipush (v := (7 : Int32)) hx hb dX10_isRowFor_47 (by decide) ?_
      refine pg_aI C hH hf dX10_isRowFor_49 (fun v49 hf => ?_)
      refine lv_imul hx hb dX10_isRowFor_50 ?_
      refine lv_icmp_gt (tgt := 58) hx hb dX10_isRowFor_51 (by decide) (fun cn => ?_) (fun cn => ?_)
      · have hf := (if_pos cn).symm.trans hf
        refine lv_iconst (v := (0 : Int32)) hx hb dX10_isRowFor_58 (by decide) ?_
        exact pg_zret C hr hH hf dX10_isRowFor_59
      · have hf := (if_neg cn).symm.trans hf
        refine lv_iconst (v := (1 : Int32)) hx hb dX10_isRowFor_54 (by decide) ?_
        refine lv_goto (tgt := 59) hx hb dX10_isRowFor_55 (by decide) ?_
        exact pg_zret C hr hH hf dX10_isRowFor_59
set_option maxHeartbeats 4000000 in
set_option maxRecDepth 100000 in
theorem wX10_piecesAt_b6 {r6 : PH → Nat → Int32 → Int32 → Int32 → Int32 → Int32 → Option (Int32 × PH)} {r : Int32} {h' : PH} (C : CT g RX10 cX10_piecesAt 6 (Cond.code yX10_piecesAt cX10_piecesAt 6 (some .int) :: TB) p s m args meth c) (hr : meth.sig.returnType = some .int) (k6 : ∀ {h : PH} {a0 : Nat} {x1 : Int32} {x2 : Int32} {x3 : Int32} {x4 : Int32} {x5 : Int32} {H : Heap} {locs : List Loc} {ls : Array Slot}, HS g s H locs h → r6 h a0 x1 x2 x3 x4 x5 = some (r, h') → lv_has ls 6 [(0, .ref (gB g + a0)), (1, .int x1), (2, .int x2), (3, .int x3), (4, .int x4), (5, .int x5)] → W p l e (rmD 3 0 0) s m args below meth c H locs 0 0 (MQ below (QcI g r h') args s 0 0 (aB g)) (F0 m 6 ls [])) {h : PH} {a0 : Nat} {x1 : Int32} {x2 : Int32} {x3 : Int32} {x4 : Int32} {x5 : Int32} {H : Heap} {locs : List Loc} {ls : Array Slot} (hH : HS g s H locs h) (hf : mX10_piecesAt_b6 r6 h a0 x1 x2 x3 x4 x5 = some (r, h')) (hl : lv_has ls 6 [(0, .ref (gB g + a0)), (1, .int x1), (2, .int x2), (3, .int x3), (4, .int x4), (5, .int x5)]) : W p l e (rmD 3 0 0) s m args below meth c H locs 0 0 (MQ below (QcI g r h') args s 0 0 (aB g)) (F0 m 6 ls []) := by
  obtain ⟨⟨hx, hb, hml, hown, hts⟩, htb, hlk, hkk, hbs⟩ := id C
  unfold mX10_piecesAt_b6 at hf
  refine lv_iload hx hb dX10_piecesAt_6 (lv_at hl 5 rfl) ?_
  refine lv_aload_n hx hb dX10_piecesAt_8 rfl (lv_at hl 0 rfl) ?_
  refine pg_gR C hH fl_X10_13 hf dX10_piecesAt_9 (fun v9 hf => ?_)
  refine lv_iconst (v := (4 : Int32)) hx hb dX10_piecesAt_12 (by decide) ?_
  refine pg_aI C hH hf dX10_piecesAt_13 (fun v13 hf => ?_)
  refine lv_icmp_ge (tgt := 61) hx hb dX10_piecesAt_14 (by decide) (fun cn => ?_) (fun cn => ?_)
  · have hf := (if_pos cn).symm.trans hf
    refine lv_iload hx hb dX10_piecesAt_61 (lv_at hl 4 rfl) ?_
    exact pg_iret C hr hH hf dX10_piecesAt_63
  · have hf := (if_neg cn).symm.trans hf
    refine lv_iload hx hb dX10_piecesAt_17 (lv_at hl 4 rfl) ?_
    refine lv_aload_n hx hb dX10_piecesAt_19 rfl (lv_at hl 0 rfl) ?_
    refine lv_iload_n hx hb dX10_piecesAt_20 rfl (lv_at hl 1 rfl) ?_
    refine lv_iload hx hb dX10_piecesAt_21 (lv_at hl 5 rfl) ?_
    refine lv_iload_n hx hb dX10_piecesAt_23 rfl (lv_at hl 3 rfl) ?_
    refine pg_Vi (As := [.int x1, .int x5, .int x3]) C hH mi_X10_isRowFor vl_X10_397 (q := (RX10, TX10, 34)) (ci := 10) rfl rfl hf (fun _ e1 => (oO_sp e1).1) (fun _ _ e1 => c_X10_isRowFor e1) rfl rfl hl.1 (Nat.le_of_ble_eq_true rfl) ⟨Nat.le_of_ble_eq_true rfl, Nat.le_of_ble_eq_true rfl⟩ ⟨Nat.zero_le _, Nat.zero_le _⟩ dX10_piecesAt_24 (fun H locs v24 h24 hH hf => ?_)
    refine lv_if_eq (tgt := 51) hx hb dX10_piecesAt_27 (by decide) (fun cn => ?_) (fun cn => ?_)
    · have hf := (if_pos cn).symm.trans hf
      refine lv_iconst (v := (0 : Int32)) hx hb dX10_piecesAt_51 (by decide) ?_
      refine lv_iadd hx hb dX10_piecesAt_52 ?_
      refine lv_istore (lv' := [(4, .int (x4 + (0 : Int32))), (0, .ref (gB g + a0)), (1, .int x1), (2, .int x2), (3, .int x3), (5, .int x5)]) hx hb dX10_piecesAt_53 hl (by decide) rfl (fun ls hl => ?_)
      refine lv_iinc (v := (x5 + 1)) (lv' := [(5, .int (x5 + 1)), (4, .int (x4 + (0 : Int32))), (0, .ref (gB g + a0)), (1, .int x1), (2, .int x2), (3, .int x3)]) hx hb dX10_piecesAt_55 hl (k := 5) rfl rfl (by decide) rfl (fun ls hl => ?_)
      refine lv_goto (tgt := 6) hx hb dX10_piecesAt_58 (by decide) ?_
      exact k6 hH hf (lv_sub hl [2, 3, 4, 5, 1, 0] rfl)
    · have hf := (if_neg cn).symm.trans hf
      refine lv_aload_n hx hb dX10_piecesAt_30 rfl (lv_at hl 0 rfl) ?_
      refine lv_iload hx hb dX10_piecesAt_31 (lv_at hl 5 rfl) ?_
      refine lv_iconst (v := (2 : Int32)) hx hb dX10_piecesAt_33 (by decide) ?_
      refine pg_Vi (As := [.int x5, .int (2 : Int32)]) C hH mi_X10_row vl_X10_394 (q := (RX10, TX10, 34)) (ci := 10) rfl rfl hf (fun _ e1 => (oO_sp e1).1) (fun _ _ e1 => c_X10_row e1) rfl rfl hl.1 (Nat.le_of_ble_eq_true rfl) ⟨Nat.le_of_ble_eq_true rfl, Nat.le_of_ble_eq_true rfl⟩ ⟨Nat.zero_le _, Nat.zero_le _⟩ dX10_piecesAt_34 (fun H locs v34 h34 hH hf => ?_)
      refine lv_iload_n hx hb dX10_piecesAt_37 rfl (lv_at hl 2 rfl) ?_
      refine lv_icmp_ne (tgt := 51) hx hb dX10_piecesAt_38 (by decide) (fun cn => ?_) (fun cn => ?_)
      · have hf := (if_neg cn).symm.trans hf
        refine lv_iconst (v := (0 : Int32)) hx hb dX10_piecesAt_51 (by decide) ?_
        refine lv_iadd hx hb dX10_piecesAt_52 ?_
        refine lv_istore (lv' := [(4, .int (x4 + (0 : Int32))), (0, .ref (gB g + a0)), (1, .int x1), (2, .int x2), (3, .int x3), (5, .int x5)]) hx hb dX10_piecesAt_53 hl (by decide) rfl (fun ls hl => ?_)
        refine lv_iinc (v := (x5 + 1)) (lv' := [(5, .int (x5 + 1)), (4, .int (x4 + (0 : Int32))), (0, .ref (gB g + a0)), (1, .int x1), (2, .int x2), (3, .int x3)]) hx hb dX10_piecesAt_55 hl (k := 5) rfl rfl (by decide) rfl (fun ls hl => ?_)
        refine lv_goto (tgt := 6) hx hb dX10_piecesAt_58 (by decide) ?_
        exact k6 hH hf (lv_sub hl [2, 3, 4, 5, 1, 0] rfl)
      · have hf := (if_pos cn).symm.trans hf
        refine lv_aload_n hx hb dX10_piecesAt_41 rfl (lv_at hl 0 rfl) ?_
        refine lv_iload hx hb dX10_piecesAt_42 (lv_at hl 5 rfl) ?_
        refine lv_iconst (v := (1 : Int32)) hx hb dX10_piecesAt_44 (by decide) ?_
        refine pg_Vi (As := [.int x5, .int (1 : Int32)]) C hH mi_X10_row vl_X10_394 (q := (RX10, TX10, 34)) (ci := 10) rfl rfl hf (fun _ e1 => (oO_sp e1).1) (fun _ _ e1 => c_X10_row e1) rfl rfl hl.1 (Nat.le_of_ble_eq_true rfl) ⟨Nat.le_of_ble_eq_true rfl, Nat.le_of_ble_eq_true rfl⟩ ⟨Nat.zero_le _, Nat.zero_le _⟩ dX10_piecesAt_45 (fun H locs v45 h45 hH hf => ?_)
        refine lv_goto (tgt := 52) hx hb dX10_piecesAt_48 (by decide) ?_
        refine lv_iadd hx hb dX10_piecesAt_52 ?_
        refine lv_istore (lv' := [(4, .int (x4 + v45)), (0, .ref (gB g + a0)), (1, .int x1), (2, .int x2), (3, .int x3), (5, .int x5)]) hx hb dX10_piecesAt_53 hl (by decide) rfl (fun ls hl => ?_)
        refine lv_iinc (v := (x5 + 1)) (lv' := [(5, .int (x5 + 1)), (4, .int (x4 + v45)), (0, .ref (gB g + a0)), (1, .int x1), (2, .int x2), (3, .int x3)]) hx hb dX10_piecesAt_55 hl (k := 5) rfl rfl (by decide) rfl (fun ls hl => ?_)
        refine lv_goto (tgt := 6) hx hb dX10_piecesAt_58 (by decide) ?_
        exact k6 hH hf (lv_sub hl [2, 3, 4, 5, 1, 0] rfl)
set_option maxHeartbeats 4000000 in
set_option maxRecDepth 100000 in
theorem wX10_piecesAt_L6 {r : Int32} {h' : PH} (C : CT g RX10 cX10_piecesAt 6 (Cond.code yX10_piecesAt cX10_piecesAt 6 (some .int) :: TB) p s m args meth c) (hr : meth.sig.returnType = some .int) : ∀ (n : Nat) {h : PH} {a0 : Nat} {x1 : Int32} {x2 : Int32} {x3 : Int32} {x4 : Int32} {x5 : Int32} {H : Heap} {locs : List Loc} {ls : Array Slot}, HS g s H locs h → mX10_piecesAt_L6 n h a0 x1 x2 x3 x4 x5 = some (r, h') → lv_has ls 6 [(0, .ref (gB g + a0)), (1, .int x1), (2, .int x2), (3, .int x3), (4, .int x4), (5, .int x5)] → W p l e (rmD 3 0 0) s m args below meth c H locs 0 0 (MQ below (QcI g r h') args s 0 0 (aB g)) (F0 m 6 ls []) := by
  intro n
  induction n with
  | zero =>
    intro h a0 x1 x2 x3 x4 x5 H locs ls hH hf hl
    exact absurd hf (by intro z; cases z)
  | succ n ih =>
    intro h a0 x1 x2 x3 x4 x5 H locs ls hH hf hl
    have hf : mX10_piecesAt_b6 (mX10_piecesAt_L6 n) h a0 x1 x2 x3 x4 x5 = some (r, h') := hf
    exact wX10_piecesAt_b6 C hr (fun a b c => ih a b c) hH hf hl
set_option maxHeartbeats 4000000 in
set_option maxRecDepth 100000 in
theorem c_X10_piecesAt {l : Launch} {g : GD} {h : PH} {a0 : Nat} {x1 : Int32} {x2 : Int32} {x3 : Int32} {r : Int32} {h' : PH} (hf : mX10_piecesAt h a0 x1 x2 x3 = some (r, h')) : Met l yX10_piecesAt (Cond.code yX10_piecesAt cX10_piecesAt 6 (some .int) :: TB) (rmD 3 0 0) (PcH g [.ref (gB g + a0), .int x1, .int x2, .int x3] h) (QcI g r h') 0 0 (aB g) := by
  refine Met.ofW (cc := cX10_piecesAt) (maxL := 6) (ret := some .int) (by decide) rfl ?_
  intro p e s m args below meth c s₁ B hml hv
  obtain ⟨rfl, hH0, hkk0⟩ := hv
  have C : CT g RX10 cX10_piecesAt 6 (Cond.code yX10_piecesAt cX10_piecesAt 6 (some .int) :: TB) p s m _ meth c := pg_ct (Tw := []) B hml hH0 hkk0
  have hr := B.returns
  have hH : HS g s s.heap [] h := ⟨hH0, va_S.rf⟩
  have hl := lv_entry ([.ref (gB g + a0), .int x1, .int x2, .int x3]) (n := 6) (Nat.le_of_ble_eq_true rfl)
  rw [lg_entry_eq]
  generalize (lg_sl ([.ref (gB g + a0), .int x1, .int x2, .int x3]) ++ List.replicate (6 - (lg_sl ([.ref (gB g + a0), .int x1, .int x2, .int x3])).length) Slot.unset).toArray = ls at hl ⊢
  have hl : lv_has ls 6 [(0, .ref (gB g + a0)), (1, .int x1), (2, .int x2), (3, .int x3)] := hl
  show W p l e (rmD 3 0 0) _ _ _ _ _ _ _ _ _ _ _ _
  unfold mX10_piecesAt at hf
  obtain ⟨hO, hf⟩ := oO_sp hf
  obtain ⟨⟨hx, hb, hml, hown, hts⟩, htb, hlk, hkk, hbs⟩ := id C
  refine lv_iconst (v := (0 : Int32)) hx hb dX10_piecesAt_0 (by decide) ?_
  refine lv_istore (lv' := [(4, .int (0 : Int32)), (0, .ref (gB g + a0)), (1, .int x1), (2, .int x2), (3, .int x3)]) hx hb dX10_piecesAt_1 hl (by decide) rfl (fun ls hl => ?_)
  refine lv_iconst (v := (0 : Int32)) hx hb dX10_piecesAt_3 (by decide) ?_
  refine lv_istore (lv' := [(5, .int (0 : Int32)), (4, .int (0 : Int32)), (0, .ref (gB g + a0)), (1, .int x1), (2, .int x2), (3, .int x3)]) hx hb dX10_piecesAt_4 hl (by decide) rfl (fun ls hl => ?_)
  exact wX10_piecesAt_L6 C hr FU hH hf (lv_sub hl [2, 3, 4, 5, 1, 0] rfl)
set_option maxHeartbeats 4000000 in
set_option maxRecDepth 100000 in
theorem wX10_bestPrice_b8 {r8 : PH → Nat → Int32 → Int32 → Int32 → Int32 → Int32 → Option (Int32 × PH)} {r : Int32} {h' : PH} (C : CT g RX10 cX10_bestPrice 8 (Cond.code yX10_bestPrice cX10_bestPrice 8 (some .int) :: TB) p s m args meth c) (hr : meth.sig.returnType = some .int) (k8 : ∀ {h : PH} {a0 : Nat} {x1 : Int32} {x2 : Int32} {x3 : Int32} {x4 : Int32} {x5 : Int32} {H : Heap} {locs : List Loc} {ls : Array Slot}, HS g s H locs h → r8 h a0 x1 x2 x3 x4 x5 = some (r, h') → lv_has ls 8 [(0, .ref (gB g + a0)), (1, .int x1), (2, .int x2), (3, .int x3), (4, .int x4), (5, .int x5)] → W p l e (rmD 4 0 0) s m args below meth c H locs 0 0 (MQ below (QcI g r h') args s 0 0 (aB g)) (F0 m 8 ls [])) {h : PH} {a0 : Nat} {x1 : Int32} {x2 : Int32} {x3 : Int32} {x4 : Int32} {x5 : Int32} {H : Heap} {locs : List Loc} {ls : Array Slot} (hH : HS g s H locs h) (hf : mX10_bestPrice_b8 r8 h a0 x1 x2 x3 x4 x5 = some (r, h')) (hl : lv_has ls 8 [(0, .ref (gB g + a0)), (1, .int x1), (2, .int x2), (3, .int x3), (4, .int x4), (5, .int x5)]) : W p l e (rmD 4 0 0) s m args below meth c H locs 0 0 (MQ below (QcI g r h') args s 0 0 (aB g)) (F0 m 8 ls []) := by
  obtain ⟨⟨hx, hb, hml, hown, hts⟩, htb, hlk, hkk, hbs⟩ := id C
  unfold mX10_bestPrice_b8 at hf
  refine lv_iload hx hb dX10_bestPrice_8 (lv_at hl 5 rfl) ?_
  refine lv_aload_n hx hb dX10_bestPrice_10 rfl (lv_at hl 0 rfl) ?_
  refine pg_gR C hH fl_X10_13 hf dX10_bestPrice_11 (fun v11 hf => ?_)
  refine lv_iconst (v := (4 : Int32)) hx hb dX10_bestPrice_14 (by decide) ?_
  refine pg_aI C hH hf dX10_bestPrice_15 (fun v15 hf => ?_)
  refine lv_icmp_ge (tgt := 90) hx hb dX10_bestPrice_16 (by decide) (fun cn => ?_) (fun cn => ?_)
  · have hf := (if_pos cn).symm.trans hf
    refine lv_iload_n hx hb dX10_bestPrice_90 rfl (lv_at hl 3 rfl) ?_
    exact pg_iret C hr hH hf dX10_bestPrice_91
  · have hf := (if_neg cn).symm.trans hf
    refine lv_aload_n hx hb dX10_bestPrice_19 rfl (lv_at hl 0 rfl) ?_
    refine lv_iload_n hx hb dX10_bestPrice_20 rfl (lv_at hl 1 rfl) ?_
    refine lv_iload hx hb dX10_bestPrice_21 (lv_at hl 5 rfl) ?_
    refine lv_iload_n hx hb dX10_bestPrice_23 rfl (lv_at hl 2 rfl) ?_
    refine pg_Vi (As := [.int x1, .int x5, .int x2]) C hH mi_X10_isRowFor vl_X10_397 (q := (RX10, TX10, 34)) (ci := 10) rfl rfl hf (fun _ e1 => (oO_sp e1).1) (fun _ _ e1 => c_X10_isRowFor e1) rfl rfl hl.1 (Nat.le_of_ble_eq_true rfl) ⟨Nat.le_of_ble_eq_true rfl, Nat.le_of_ble_eq_true rfl⟩ ⟨Nat.zero_le _, Nat.zero_le _⟩ dX10_bestPrice_24 (fun H locs v24 h24 hH hf => ?_)
    refine lv_if_ne (tgt := 33) hx hb dX10_bestPrice_27 (by decide) (fun cn => ?_) (fun cn => ?_)
    · have hf := (if_neg cn).symm.trans hf
      refine lv_aload_n hx hb dX10_bestPrice_33 rfl (lv_at hl 0 rfl) ?_
      refine lv_iload hx hb dX10_bestPrice_34 (lv_at hl 5 rfl) ?_
      refine lv_iconst (v := (2 : Int32)) hx hb dX10_bestPrice_36 (by decide) ?_
      refine pg_Vi (As := [.int x5, .int (2 : Int32)]) C hH mi_X10_row vl_X10_394 (q := (RX10, TX10, 34)) (ci := 10) rfl rfl hf (fun _ e1 => (oO_sp e1).1) (fun _ _ e1 => c_X10_row e1) rfl rfl hl.1 (Nat.le_of_ble_eq_true rfl) ⟨Nat.le_of_ble_eq_true rfl, Nat.le_of_ble_eq_true rfl⟩ ⟨Nat.zero_le _, Nat.zero_le _⟩ dX10_bestPrice_37 (fun H locs v37 h37 hH hf => ?_)
      refine lv_istore (lv' := [(6, .int v37), (0, .ref (gB g + a0)), (1, .int x1), (2, .int x2), (3, .int x3), (4, .int x4), (5, .int x5)]) hx hb dX10_bestPrice_40 hl (by decide) rfl (fun ls hl => ?_)
      refine lv_aload_n hx hb dX10_bestPrice_42 rfl (lv_at hl 1 rfl) ?_
      refine lv_iload_n hx hb dX10_bestPrice_43 rfl (lv_at hl 2 rfl) ?_
      refine lv_iload hx hb dX10_bestPrice_44 (lv_at hl 0 rfl) ?_
      refine lv_iload_n hx hb dX10_bestPrice_46 rfl (lv_at hl 3 rfl) ?_
      refine pg_Vi (As := [.int x1, .int v37, .int x2]) C hH mi_X10_piecesAt vl_X10_400 (q := (RX10, TX10, 34)) (ci := 10) rfl rfl hf (fun _ e1 => (oO_sp e1).1) (fun _ _ e1 => c_X10_piecesAt e1) rfl rfl hl.1 (Nat.le_of_ble_eq_true rfl) ⟨Nat.le_of_ble_eq_true rfl, Nat.le_of_ble_eq_true rfl⟩ ⟨Nat.zero_le _, Nat.zero_le _⟩ dX10_bestPrice_47 (fun H locs v47 h47 hH hf => ?_)
      refine lv_istore (lv' := [(7, .int v47), (6, .int v37), (0, .ref (gB g + a0)), (1, .int x1), (2, .int x2), (3, .int x3), (4, .int x4), (5, .int x5)]) hx hb dX10_bestPrice_50 hl (by decide) rfl (fun ls hl => ?_)
      refine lv_iload_n hx hb dX10_bestPrice_52 rfl (lv_at hl 5 rfl) ?_
      refine lv_iconst (v := (-1 : Int32)) hx hb dX10_bestPrice_53 (by decide) ?_
      refine lv_icmp_eq (tgt := 77) hx hb dX10_bestPrice_54 (by decide) (fun cn => ?_) (fun cn => ?_)
      · have hf := (if_pos cn).symm.trans hf
        refine lv_iload hx hb dX10_bestPrice_77 (lv_at hl 1 rfl) ?_
        refine lv_istore_n (lv' := [(3, .int v37), (7, .int v47), (6, .int v37), (0, .ref (gB g + a0)), (1, .int x1), (2, .int x2), (4, .int x4), (5, .int x5)]) hx hb dX10_bestPrice_79 rfl hl (by decide) rfl (fun ls hl => ?_)
        refine lv_iload hx hb dX10_bestPrice_80 (lv_at hl 1 rfl) ?_
        refine lv_istore (lv' := [(4, .int v47), (3, .int v37), (7, .int v47), (6, .int v37), (0, .ref (gB g + a0)), (1, .int x1), (2, .int x2), (5, .int x5)]) hx hb dX10_bestPrice_82 hl (by decide) rfl (fun ls hl => ?_)
        refine lv_iinc (v := (x5 + 1)) (lv' := [(5, .int (x5 + 1)), (4, .int v47), (3, .int v37), (7, .int v47), (6, .int v37), (0, .ref (gB g + a0)), (1, .int x1), (2, .int x2)]) hx hb dX10_bestPrice_84 hl (k := 7) rfl rfl (by decide) rfl (fun ls hl => ?_)
        refine lv_goto (tgt := 8) hx hb dX10_bestPrice_87 (by decide) ?_
        exact k8 hH hf (lv_sub hl [5, 6, 7, 2, 1, 0] rfl)
      · have hf := (if_neg cn).symm.trans hf
        refine lv_iload hx hb dX10_bestPrice_57 (lv_at hl 0 rfl) ?_
        refine lv_iload hx hb dX10_bestPrice_59 (lv_at hl 6 rfl) ?_
        refine lv_icmp_gt (tgt := 77) hx hb dX10_bestPrice_61 (by decide) (fun cn => ?_) (fun cn => ?_)
        · have hf := (if_pos cn).symm.trans hf
          refine lv_iload hx hb dX10_bestPrice_77 (lv_at hl 1 rfl) ?_
          refine lv_istore_n (lv' := [(3, .int v37), (7, .int v47), (6, .int v37), (0, .ref (gB g + a0)), (1, .int x1), (2, .int x2), (4, .int x4), (5, .int x5)]) hx hb dX10_bestPrice_79 rfl hl (by decide) rfl (fun ls hl => ?_)
          refine lv_iload hx hb dX10_bestPrice_80 (lv_at hl 1 rfl) ?_
          refine lv_istore (lv' := [(4, .int v47), (3, .int v37), (7, .int v47), (6, .int v37), (0, .ref (gB g + a0)), (1, .int x1), (2, .int x2), (5, .int x5)]) hx hb dX10_bestPrice_82 hl (by decide) rfl (fun ls hl => ?_)
          refine lv_iinc (v := (x5 + 1)) (lv' := [(5, .int (x5 + 1)), (4, .int v47), (3, .int v37), (7, .int v47), (6, .int v37), (0, .ref (gB g + a0)), (1, .int x1), (2, .int x2)]) hx hb dX10_bestPrice_84 hl (k := 7) rfl rfl (by decide) rfl (fun ls hl => ?_)
          refine lv_goto (tgt := 8) hx hb dX10_bestPrice_87 (by decide) ?_
          exact k8 hH hf (lv_sub hl [5, 6, 7, 2, 1, 0] rfl)
        · have hf := (if_neg cn).symm.trans hf
          refine lv_iload hx hb dX10_bestPrice_64 (lv_at hl 0 rfl) ?_
          refine lv_iload hx hb dX10_bestPrice_66 (lv_at hl 6 rfl) ?_
          refine lv_icmp_ne (tgt := 84) hx hb dX10_bestPrice_68 (by decide) (fun cn => ?_) (fun cn => ?_)
          · have hf := (if_neg cn).symm.trans hf
            refine lv_iinc (v := (x5 + 1)) (lv' := [(5, .int (x5 + 1)), (7, .int v47), (6, .int v37), (0, .ref (gB g + a0)), (1, .int x1), (2, .int x2), (3, .int x3), (4, .int x4)]) hx hb dX10_bestPrice_84 hl (k := 7) rfl rfl (by decide) rfl (fun ls hl => ?_)
            refine lv_goto (tgt := 8) hx hb dX10_bestPrice_87 (by decide) ?_
            exact k8 hH hf (lv_sub hl [3, 4, 5, 6, 7, 0] rfl)
          · have hf := (if_pos cn).symm.trans hf
            refine lv_iload hx hb dX10_bestPrice_71 (lv_at hl 1 rfl) ?_
            refine lv_iload_n hx hb dX10_bestPrice_73 rfl (lv_at hl 5 rfl) ?_
            refine lv_icmp_ge (tgt := 84) hx hb dX10_bestPrice_74 (by decide) (fun cn => ?_) (fun cn => ?_)
            · have hf := (if_pos cn).symm.trans hf
              refine lv_iinc (v := (x5 + 1)) (lv' := [(5, .int (x5 + 1)), (7, .int v47), (6, .int v37), (0, .ref (gB g + a0)), (1, .int x1), (2, .int x2), (3, .int x3), (4, .int x4)]) hx hb dX10_bestPrice_84 hl (k := 7) rfl rfl (by decide) rfl (fun ls hl => ?_)
              refine lv_goto (tgt := 8) hx hb dX10_bestPrice_87 (by decide) ?_
              exact k8 hH hf (lv_sub hl [3, 4, 5, 6, 7, 0] rfl)
            · have hf := (if_neg cn).symm.trans hf
              refine lv_iload hx hb dX10_bestPrice_77 (lv_at hl 1 rfl) ?_
              refine lv_istore_n (lv' := [(3, .int v37), (7, .int v47), (6, .int v37), (0, .ref (gB g + a0)), (1, .int x1), (2, .int x2), (4, .int x4), (5, .int x5)]) hx hb dX10_bestPrice_79 rfl hl (by decide) rfl (fun ls hl => ?_)
              refine lv_iload hx hb dX10_bestPrice_80 (lv_at hl 1 rfl) ?_
              refine lv_istore (lv' := [(4, .int v47), (3, .int v37), (7, .int v47), (6, .int v37), (0, .ref (gB g + a0)), (1, .int x1), (2, .int x2), (5, .int x5)]) hx hb dX10_bestPrice_82 hl (by decide) rfl (fun ls hl => ?_)
              refine lv_iinc (v := (x5 + 1)) (lv' := [(5, .int (x5 + 1)), (4, .int v47), (3, .int v37), (7, .int v47), (6, .int v37), (0, .ref (gB g + a0)), (1, .int x1), (2, .int x2)]) hx hb dX10_bestPrice_84 hl (k := 7) rfl rfl (by decide) rfl (fun ls hl => ?_)
              refine lv_goto (tgt := 8) hx hb dX10_bestPrice_87 (by decide) ?_
              exact k8 hH hf (lv_sub hl [5, 6, 7, 2, 1, 0] rfl)
    · have hf := (if_pos cn).symm.trans hf
      refine lv_goto (tgt := 84) hx hb dX10_bestPrice_30 (by decide) ?_
      refine lv_iinc (v := (x5 + 1)) (lv' := [(5, .int (x5 + 1)), (0, .ref (gB g + a0)), (1, .int x1), (2, .int x2), (3, .int x3), (4, .int x4)]) hx hb dX10_bestPrice_84 hl (k := 5) rfl rfl (by decide) rfl (fun ls hl => ?_)
      refine lv_goto (tgt := 8) hx hb dX10_bestPrice_87 (by decide) ?_
      exact k8 hH hf (lv_sub hl [1, 2, 3, 4, 5, 0] rfl)
set_option maxHeartbeats 4000000 in
set_option maxRecDepth 100000 in
theorem wX10_bestPrice_L8 {r : Int32} {h' : PH} (C : CT g RX10 cX10_bestPrice 8 (Cond.code yX10_bestPrice cX10_bestPrice 8 (some .int) :: TB) p s m args meth c) (hr : meth.sig.returnType = some .int) : ∀ (n : Nat) {h : PH} {a0 : Nat} {x1 : Int32} {x2 : Int32} {x3 : Int32} {x4 : Int32} {x5 : Int32} {H : Heap} {locs : List Loc} {ls : Array Slot}, HS g s H locs h → mX10_bestPrice_L8 n h a0 x1 x2 x3 x4 x5 = some (r, h') → lv_has ls 8 [(0, .ref (gB g + a0)), (1, .int x1), (2, .int x2), (3, .int x3), (4, .int x4), (5, .int x5)] → W p l e (rmD 4 0 0) s m args below meth c H locs 0 0 (MQ below (QcI g r h') args s 0 0 (aB g)) (F0 m 8 ls []) := by
  intro n
  induction n with
  | zero =>
    intro h a0 x1 x2 x3 x4 x5 H locs ls hH hf hl
    exact absurd hf (by intro z; cases z)
  | succ n ih =>
    intro h a0 x1 x2 x3 x4 x5 H locs ls hH hf hl
    have hf : mX10_bestPrice_b8 (mX10_bestPrice_L8 n) h a0 x1 x2 x3 x4 x5 = some (r, h') := hf
    exact wX10_bestPrice_b8 C hr (fun a b c => ih a b c) hH hf hl
set_option maxHeartbeats 4000000 in
set_option maxRecDepth 100000 in
theorem c_X10_bestPrice {l : Launch} {g : GD} {h : PH} {a0 : Nat} {x1 : Int32} {x2 : Int32} {r : Int32} {h' : PH} (hf : mX10_bestPrice h a0 x1 x2 = some (r, h')) : Met l yX10_bestPrice (Cond.code yX10_bestPrice cX10_bestPrice 8 (some .int) :: TB) (rmD 4 0 0) (PcH g [.ref (gB g + a0), .int x1, .int x2] h) (QcI g r h') 0 0 (aB g) := by
  refine Met.ofW (cc := cX10_bestPrice) (maxL := 8) (ret := some .int) (by decide) rfl ?_
  intro p e s m args below meth c s₁ B hml hv
  obtain ⟨rfl, hH0, hkk0⟩ := hv
  have C : CT g RX10 cX10_bestPrice 8 (Cond.code yX10_bestPrice cX10_bestPrice 8 (some .int) :: TB) p s m _ meth c := pg_ct (Tw := []) B hml hH0 hkk0
  have hr := B.returns
  have hH : HS g s s.heap [] h := ⟨hH0, va_S.rf⟩
  have hl := lv_entry ([.ref (gB g + a0), .int x1, .int x2]) (n := 8) (Nat.le_of_ble_eq_true rfl)
  rw [lg_entry_eq]
  generalize (lg_sl ([.ref (gB g + a0), .int x1, .int x2]) ++ List.replicate (8 - (lg_sl ([.ref (gB g + a0), .int x1, .int x2])).length) Slot.unset).toArray = ls at hl ⊢
  have hl : lv_has ls 8 [(0, .ref (gB g + a0)), (1, .int x1), (2, .int x2)] := hl
  show W p l e (rmD 4 0 0) _ _ _ _ _ _ _ _ _ _ _ _
  unfold mX10_bestPrice at hf
  obtain ⟨hO, hf⟩ := oO_sp hf
  obtain ⟨⟨hx, hb, hml, hown, hts⟩, htb, hlk, hkk, hbs⟩ := id C
  refine lv_iconst (v := (-1 : Int32)) hx hb dX10_bestPrice_0 (by decide) ?_
  refine lv_istore_n (lv' := [(3, .int (-1 : Int32)), (0, .ref (gB g + a0)), (1, .int x1), (2, .int x2)]) hx hb dX10_bestPrice_1 rfl hl (by decide) rfl (fun ls hl => ?_)
  refine lv_iconst (v := (0 : Int32)) hx hb dX10_bestPrice_2 (by decide) ?_
  refine lv_istore (lv' := [(4, .int (0 : Int32)), (3, .int (-1 : Int32)), (0, .ref (gB g + a0)), (1, .int x1), (2, .int x2)]) hx hb dX10_bestPrice_3 hl (by decide) rfl (fun ls hl => ?_)
  refine lv_iconst (v := (0 : Int32)) hx hb dX10_bestPrice_5 (by decide) ?_
  refine lv_istore (lv' := [(5, .int (0 : Int32)), (4, .int (0 : Int32)), (3, .int (-1 : Int32)), (0, .ref (gB g + a0)), (1, .int x1), (2, .int x2)]) hx hb dX10_bestPrice_6 hl (by decide) rfl (fun ls hl => ?_)
  exact wX10_bestPrice_L8 C hr FU hH hf (lv_sub hl [3, 4, 5, 2, 1, 0] rfl)
set_option maxHeartbeats 4000000 in
set_option maxRecDepth 100000 in
theorem c_X10_fails {l : Launch} {g : GD} {h : PH} {x0 : Int32} {r : Int64} {h' : PH} (hf : mX10_fails h x0 = some (r, h')) : Met l yX10_fails (Cond.code yX10_fails cX10_fails 1 (some .long) :: TB) (rmD 0 0 0) (PcH g [.int x0] h) (QcL g r h') 0 0 (aB g) := by
  refine Met.ofW (cc := cX10_fails) (maxL := 1) (ret := some .long) (by decide) rfl ?_
  intro p e s m args below meth c s₁ B hml hv
  obtain ⟨rfl, hH0, hkk0⟩ := hv
  have C : CT g RX10 cX10_fails 1 (Cond.code yX10_fails cX10_fails 1 (some .long) :: TB) p s m _ meth c := pg_ct (Tw := []) B hml hH0 hkk0
  have hr := B.returns
  have hH : HS g s s.heap [] h := ⟨hH0, va_S.rf⟩
  have hl := lv_entry ([.int x0]) (n := 1) (Nat.le_of_ble_eq_true rfl)
  rw [lg_entry_eq]
  generalize (lg_sl ([.int x0]) ++ List.replicate (1 - (lg_sl ([.int x0])).length) Slot.unset).toArray = ls at hl ⊢
  have hl : lv_has ls 1 [(0, .int x0)] := hl
  show W p l e (rmD 0 0 0) _ _ _ _ _ _ _ _ _ _ _ _
  unfold mX10_fails at hf
  obtain ⟨⟨hx, hb, hml, hown, hts⟩, htb, hlk, hkk, hbs⟩ := id C
  refine lv_bipush (v := (-2 : Int32)) hx hb dX10_fails_0 (by decide) ?_
  refine lv_iload_n hx hb dX10_fails_2 rfl (lv_at hl 0 rfl) ?_
  refine lv_isub hx hb dX10_fails_3 ?_
  refine lv_i2l (v := (Int32.toInt64 ((-2 : Int32) - x0))) hx hb dX10_fails_4 rfl ?_
  exact pg_lret C hr hH hf dX10_fails_5
set_option maxHeartbeats 4000000 in
set_option maxRecDepth 100000 in
theorem wX10_byResold_b22 {r : Int64} {h' : PH} (C : CT g RX10 cX10_byResold 3 (Cond.code yX10_byResold cX10_byResold 3 (some .long) :: TB) p s m args meth c) (hr : meth.sig.returnType = some .long) {h : PH} {a0 : Nat} {x1 : Int32} {s0 : Int32} {H : Heap} {locs : List Loc} {ls : Array Slot} (hH : HS g s H locs h) (hf : mX10_byResold_b22 h a0 x1 s0 = some (r, h')) (hl : lv_has ls 3 [(0, .ref (gB g + a0)), (1, .int x1)]) : W p l e (rmD 5 0 0) s m args below meth c H locs 0 0 (MQ below (QcL g r h') args s 0 0 (aB g)) (F0 m 22 ls [.int s0]) := by
  obtain ⟨⟨hx, hb, hml, hown, hts⟩, htb, hlk, hkk, hbs⟩ := id C
  unfold mX10_byResold_b22 at hf
  refine lv_istore_n (lv' := [(2, .int s0), (0, .ref (gB g + a0)), (1, .int x1)]) hx hb dX10_byResold_22 rfl hl (by decide) rfl (fun ls hl => ?_)
  refine lv_aload_n hx hb dX10_byResold_23 rfl (lv_at hl 1 rfl) ?_
  refine lv_iload_n hx hb dX10_byResold_24 rfl (lv_at hl 0 rfl) ?_
  refine pg_pI C hH fl_X10_391 fm_10_28 hf dX10_byResold_25 (fun H locs h25 hH hf => ?_)
  refine lv_iload_n hx hb dX10_byResold_28 rfl (lv_at hl 0 rfl) ?_
  refine lv_iconst (v := (-1 : Int32)) hx hb dX10_byResold_29 (by decide) ?_
  refine lv_icmp_ne (tgt := 41) hx hb dX10_byResold_30 (by decide) (fun cn => ?_) (fun cn => ?_)
  · have hf := (if_neg cn).symm.trans hf
    refine lv_aload_n hx hb dX10_byResold_41 rfl (lv_at hl 1 rfl) ?_
    refine lv_iload_n hx hb dX10_byResold_42 rfl (lv_at hl 2 rfl) ?_
    refine lv_iconst (v := (3 : Int32)) hx hb dX10_byResold_43 (by decide) ?_
    refine pg_Vi (As := [.int x1, .int (3 : Int32)]) C hH mi_X10_of vl_X10_281 (q := (RX10, TX10, 34)) (ci := 10) rfl rfl hf (fun _ e1 => (oO_sp e1).1) (fun _ _ e1 => c_X10_of e1) rfl rfl hl.1 (Nat.le_of_ble_eq_true rfl) ⟨Nat.le_of_ble_eq_true rfl, Nat.le_of_ble_eq_true rfl⟩ ⟨Nat.zero_le _, Nat.zero_le _⟩ dX10_byResold_44 (fun H locs v44 h44 hH hf => ?_)
    refine lv_i2l (v := (Int32.toInt64 v44)) hx hb dX10_byResold_47 rfl ?_
    refine lv_iload_n hx hb dX10_byResold_48 rfl (lv_at hl 0 rfl) ?_
    refine lv_i2l (v := (Int32.toInt64 s0)) hx hb dX10_byResold_49 rfl ?_
    refine lv_lmul hx hb dX10_byResold_50 ?_
    refine lv_bipush (v := (100 : Int32)) hx hb dX10_byResold_51 (by decide) ?_
    refine lv_aload_n hx hb dX10_byResold_53 rfl (lv_at hl 1 rfl) ?_
    refine pg_gR C hH fl_X10_13 hf dX10_byResold_54 (fun v54 hf => ?_)
    refine lv_bipush (v := (8 : Int32)) hx hb dX10_byResold_57 (by decide) ?_
    refine pg_aI C hH hf dX10_byResold_59 (fun v59 hf => ?_)
    refine lv_isub hx hb dX10_byResold_60 ?_
    refine lv_i2l (v := (Int32.toInt64 ((100 : Int32) - v59))) hx hb dX10_byResold_61 rfl ?_
    refine lv_lmul hx hb dX10_byResold_62 ?_
    refine lv_bipush (v := (100 : Int32)) hx hb dX10_byResold_63 (by decide) ?_
    refine lv_aload_n hx hb dX10_byResold_65 rfl (lv_at hl 1 rfl) ?_
    refine pg_gR C hH fl_X10_13 hf dX10_byResold_66 (fun v66 hf => ?_)
    refine lv_bipush (v := (9 : Int32)) hx hb dX10_byResold_69 (by decide) ?_
    refine pg_aI C hH hf dX10_byResold_71 (fun v71 hf => ?_)
    refine lv_iadd hx hb dX10_byResold_72 ?_
    refine lv_i2l (v := (Int32.toInt64 ((100 : Int32) + v71))) hx hb dX10_byResold_73 rfl ?_
    obtain ⟨hz74, hf⟩ := dz_sp hf
    refine lv_ldiv hx hb dX10_byResold_74 hz74 ?_
    exact pg_lret C hr hH hf dX10_byResold_75
  · have hf := (if_pos cn).symm.trans hf
    refine lv_bipush (v := (41 : Int32)) hx hb dX10_byResold_33 (by decide) ?_
    refine pg_Sl (As := [.int (41 : Int32)]) C hH mi_X10_fails sl_X10_376 hf (fun _ _ e1 => c_X10_fails e1) rfl rfl hl.1 (Nat.le_of_ble_eq_true rfl) ⟨Nat.le_of_ble_eq_true rfl, Nat.le_of_ble_eq_true rfl⟩ ⟨Nat.zero_le _, Nat.zero_le _⟩ dX10_byResold_35 (fun H locs v35 h35 hH hf => ?_)
    refine lv_goto (tgt := 75) hx hb dX10_byResold_38 (by decide) ?_
    exact pg_lret C hr hH hf dX10_byResold_75
set_option maxHeartbeats 4000000 in
set_option maxRecDepth 100000 in
theorem c_X10_byResold {l : Launch} {g : GD} {h : PH} {a0 : Nat} {x1 : Int32} {r : Int64} {h' : PH} (hf : mX10_byResold h a0 x1 = some (r, h')) : Met l yX10_byResold (Cond.code yX10_byResold cX10_byResold 3 (some .long) :: TB) (rmD 5 0 0) (PcH g [.ref (gB g + a0), .int x1] h) (QcL g r h') 0 0 (aB g) := by
  refine Met.ofW (cc := cX10_byResold) (maxL := 3) (ret := some .long) (by decide) rfl ?_
  intro p e s m args below meth c s₁ B hml hv
  obtain ⟨rfl, hH0, hkk0⟩ := hv
  have C : CT g RX10 cX10_byResold 3 (Cond.code yX10_byResold cX10_byResold 3 (some .long) :: TB) p s m _ meth c := pg_ct (Tw := []) B hml hH0 hkk0
  have hr := B.returns
  have hH : HS g s s.heap [] h := ⟨hH0, va_S.rf⟩
  have hl := lv_entry ([.ref (gB g + a0), .int x1]) (n := 3) (Nat.le_of_ble_eq_true rfl)
  rw [lg_entry_eq]
  generalize (lg_sl ([.ref (gB g + a0), .int x1]) ++ List.replicate (3 - (lg_sl ([.ref (gB g + a0), .int x1])).length) Slot.unset).toArray = ls at hl ⊢
  have hl : lv_has ls 3 [(0, .ref (gB g + a0)), (1, .int x1)] := hl
  show W p l e (rmD 5 0 0) _ _ _ _ _ _ _ _ _ _ _ _
  unfold mX10_byResold at hf
  obtain ⟨hO, hf⟩ := oO_sp hf
  obtain ⟨⟨hx, hb, hml, hown, hts⟩, htb, hlk, hkk, hbs⟩ := id C
  refine lv_aload_n hx hb dX10_byResold_0 rfl (lv_at hl 0 rfl) ?_
  refine lv_iload_n hx hb dX10_byResold_1 rfl (lv_at hl 1 rfl) ?_
  refine lv_iconst (v := (1 : Int32)) hx hb dX10_byResold_2 (by decide) ?_
  refine pg_Vi (As := [.int x1, .int (1 : Int32)]) C hH mi_X10_bestPrice vl_X10_404 (q := (RX10, TX10, 34)) (ci := 10) rfl rfl hf (fun _ e1 => (oO_sp e1).1) (fun _ _ e1 => c_X10_bestPrice e1) rfl rfl hl.1 (Nat.le_of_ble_eq_true rfl) ⟨Nat.le_of_ble_eq_true rfl, Nat.le_of_ble_eq_true rfl⟩ ⟨Nat.zero_le _, Nat.zero_le _⟩ dX10_byResold_3 (fun H locs v3 h3 hH hf => ?_)
  refine lv_istore_n (lv' := [(2, .int v3), (0, .ref (gB g + a0)), (1, .int x1)]) hx hb dX10_byResold_6 rfl hl (by decide) rfl (fun ls hl => ?_)
  refine lv_iload_n hx hb dX10_byResold_7 rfl (lv_at hl 0 rfl) ?_
  refine lv_iconst (v := (-1 : Int32)) hx hb dX10_byResold_8 (by decide) ?_
  refine lv_icmp_ne (tgt := 21) hx hb dX10_byResold_9 (by decide) (fun cn => ?_) (fun cn => ?_)
  · have hf := (if_neg cn).symm.trans hf
    refine lv_iload_n hx hb dX10_byResold_21 rfl (lv_at hl 0 rfl) ?_
    exact wX10_byResold_b22 C hr hH hf (lv_sub hl [1, 2] rfl)
  · have hf := (if_pos cn).symm.trans hf
    refine lv_aload_n hx hb dX10_byResold_12 rfl (lv_at hl 1 rfl) ?_
    refine lv_iload_n hx hb dX10_byResold_13 rfl (lv_at hl 2 rfl) ?_
    refine lv_iconst (v := (2 : Int32)) hx hb dX10_byResold_14 (by decide) ?_
    refine pg_Vi (As := [.int x1, .int (2 : Int32)]) C hH mi_X10_bestPrice vl_X10_404 (q := (RX10, TX10, 34)) (ci := 10) rfl rfl hf (fun _ e1 => (oO_sp e1).1) (fun _ _ e1 => c_X10_bestPrice e1) rfl rfl hl.1 (Nat.le_of_ble_eq_true rfl) ⟨Nat.le_of_ble_eq_true rfl, Nat.le_of_ble_eq_true rfl⟩ ⟨Nat.zero_le _, Nat.zero_le _⟩ dX10_byResold_15 (fun H locs v15 h15 hH hf => ?_)
    refine lv_goto (tgt := 22) hx hb dX10_byResold_18 (by decide) ?_
    exact wX10_byResold_b22 C hr hH hf (lv_sub hl [1, 2] rfl)
set_option maxHeartbeats 4000000 in
set_option maxRecDepth 100000 in
theorem c_X10_byMaking {l : Launch} {g : GD} {h : PH} {a0 : Nat} {x1 : Int32} {r : Int64} {h' : PH} (hf : mX10_byMaking h a0 x1 = some (r, h')) : Met l yX10_byMaking (Cond.code yX10_byMaking cX10_byMaking 3 (some .long) :: TB) (rmD 5 0 0) (PcH g [.ref (gB g + a0), .int x1] h) (QcL g r h') 0 0 (aB g) := by
  refine Met.ofW (cc := cX10_byMaking) (maxL := 3) (ret := some .long) (by decide) rfl ?_
  intro p e s m args below meth c s₁ B hml hv
  obtain ⟨rfl, hH0, hkk0⟩ := hv
  have C : CT g RX10 cX10_byMaking 3 (Cond.code yX10_byMaking cX10_byMaking 3 (some .long) :: TB) p s m _ meth c := pg_ct (Tw := []) B hml hH0 hkk0
  have hr := B.returns
  have hH : HS g s s.heap [] h := ⟨hH0, va_S.rf⟩
  have hl := lv_entry ([.ref (gB g + a0), .int x1]) (n := 3) (Nat.le_of_ble_eq_true rfl)
  rw [lg_entry_eq]
  generalize (lg_sl ([.ref (gB g + a0), .int x1]) ++ List.replicate (3 - (lg_sl ([.ref (gB g + a0), .int x1])).length) Slot.unset).toArray = ls at hl ⊢
  have hl : lv_has ls 3 [(0, .ref (gB g + a0)), (1, .int x1)] := hl
  show W p l e (rmD 5 0 0) _ _ _ _ _ _ _ _ _ _ _ _
  unfold mX10_byMaking at hf
  obtain ⟨hO, hf⟩ := oO_sp hf
  obtain ⟨⟨hx, hb, hml, hown, hts⟩, htb, hlk, hkk, hbs⟩ := id C
  refine lv_aload_n hx hb dX10_byMaking_0 rfl (lv_at hl 0 rfl) ?_
  refine lv_aload_n hx hb dX10_byMaking_1 rfl (lv_at hl 0 rfl) ?_
  refine lv_iload_n hx hb dX10_byMaking_2 rfl (lv_at hl 1 rfl) ?_
  refine lv_iconst (v := (0 : Int32)) hx hb dX10_byMaking_3 (by decide) ?_
  refine pg_Vi (As := [.int x1, .int (0 : Int32)]) C hH mi_X10_of vl_X10_281 (q := (RX10, TX10, 34)) (ci := 10) rfl rfl hf (fun _ e1 => (oO_sp e1).1) (fun _ _ e1 => c_X10_of e1) rfl rfl hl.1 (Nat.le_of_ble_eq_true rfl) ⟨Nat.le_of_ble_eq_true rfl, Nat.le_of_ble_eq_true rfl⟩ ⟨Nat.zero_le _, Nat.zero_le _⟩ dX10_byMaking_4 (fun H locs v4 h4 hH hf => ?_)
  refine lv_iconst (v := (2 : Int32)) hx hb dX10_byMaking_7 (by decide) ?_
  refine pg_Vi (As := [.int v4, .int (2 : Int32)]) C hH mi_X10_good vl_X10_298 (q := (RX10, TX10, 34)) (ci := 10) rfl rfl hf (fun _ e1 => (oO_sp e1).1) (fun _ _ e1 => c_X10_good e1) rfl rfl hl.1 (Nat.le_of_ble_eq_true rfl) ⟨Nat.le_of_ble_eq_true rfl, Nat.le_of_ble_eq_true rfl⟩ ⟨Nat.zero_le _, Nat.zero_le _⟩ dX10_byMaking_8 (fun H locs v8 h8 hH hf => ?_)
  refine lv_istore_n (lv' := [(2, .int v8), (0, .ref (gB g + a0)), (1, .int x1)]) hx hb dX10_byMaking_11 rfl hl (by decide) rfl (fun ls hl => ?_)
  refine lv_iload_n hx hb dX10_byMaking_12 rfl (lv_at hl 0 rfl) ?_
  refine lv_if_ne (tgt := 22) hx hb dX10_byMaking_13 (by decide) (fun cn => ?_) (fun cn => ?_)
  · have hf := (if_neg cn).symm.trans hf
    refine lv_aload_n hx hb dX10_byMaking_22 rfl (lv_at hl 1 rfl) ?_
    refine lv_iload_n hx hb dX10_byMaking_23 rfl (lv_at hl 2 rfl) ?_
    refine lv_iconst (v := (3 : Int32)) hx hb dX10_byMaking_24 (by decide) ?_
    refine pg_Vi (As := [.int x1, .int (3 : Int32)]) C hH mi_X10_of vl_X10_281 (q := (RX10, TX10, 34)) (ci := 10) rfl rfl hf (fun _ e1 => (oO_sp e1).1) (fun _ _ e1 => c_X10_of e1) rfl rfl hl.1 (Nat.le_of_ble_eq_true rfl) ⟨Nat.le_of_ble_eq_true rfl, Nat.le_of_ble_eq_true rfl⟩ ⟨Nat.zero_le _, Nat.zero_le _⟩ dX10_byMaking_25 (fun H locs v25 h25 hH hf => ?_)
    refine lv_i2l (v := (Int32.toInt64 v25)) hx hb dX10_byMaking_28 rfl ?_
    refine lv_iload_n hx hb dX10_byMaking_29 rfl (lv_at hl 0 rfl) ?_
    refine lv_i2l (v := (Int32.toInt64 v8)) hx hb dX10_byMaking_30 rfl ?_
    refine lv_lmul hx hb dX10_byMaking_31 ?_
    refine lv_bipush (v := (100 : Int32)) hx hb dX10_byMaking_32 (by decide) ?_
    refine lv_aload_n hx hb dX10_byMaking_34 rfl (lv_at hl 1 rfl) ?_
    refine lv_aload_n hx hb dX10_byMaking_35 rfl (lv_at hl 1 rfl) ?_
    refine lv_iload_n hx hb dX10_byMaking_36 rfl (lv_at hl 2 rfl) ?_
    refine lv_iconst (v := (0 : Int32)) hx hb dX10_byMaking_37 (by decide) ?_
    refine pg_Vi (As := [.int x1, .int (0 : Int32)]) C hH mi_X10_of vl_X10_281 (q := (RX10, TX10, 34)) (ci := 10) rfl rfl hf (fun _ e1 => (oO_sp e1).1) (fun _ _ e1 => c_X10_of e1) rfl rfl hl.1 (Nat.le_of_ble_eq_true rfl) ⟨Nat.le_of_ble_eq_true rfl, Nat.le_of_ble_eq_true rfl⟩ ⟨Nat.zero_le _, Nat.zero_le _⟩ dX10_byMaking_38 (fun H locs v38 h38 hH hf => ?_)
    refine lv_iconst (v := (3 : Int32)) hx hb dX10_byMaking_41 (by decide) ?_
    refine pg_Vi (As := [.int v38, .int (3 : Int32)]) C hH mi_X10_good vl_X10_298 (q := (RX10, TX10, 34)) (ci := 10) rfl rfl hf (fun _ e1 => (oO_sp e1).1) (fun _ _ e1 => c_X10_good e1) rfl rfl hl.1 (Nat.le_of_ble_eq_true rfl) ⟨Nat.le_of_ble_eq_true rfl, Nat.le_of_ble_eq_true rfl⟩ ⟨Nat.zero_le _, Nat.zero_le _⟩ dX10_byMaking_42 (fun H locs v42 h42 hH hf => ?_)
    refine lv_iadd hx hb dX10_byMaking_45 ?_
    refine lv_i2l (v := (Int32.toInt64 ((100 : Int32) + v42))) hx hb dX10_byMaking_46 rfl ?_
    refine lv_lmul hx hb dX10_byMaking_47 ?_
    refine lv_ldc2 (v := (100 : Int64)) hx hb hown (hts _ (htb _ kl_X10_326)) dX10_byMaking_48 ?_
    refine lv_ldiv hx hb dX10_byMaking_51 (by decide) ?_
    refine lv_aload_n hx hb dX10_byMaking_52 rfl (lv_at hl 1 rfl) ?_
    refine lv_iload_n hx hb dX10_byMaking_53 rfl (lv_at hl 2 rfl) ?_
    refine lv_bipush (v := (9 : Int32)) hx hb dX10_byMaking_54 (by decide) ?_
    refine pg_Vi (As := [.int x1, .int (9 : Int32)]) C hH mi_X10_of vl_X10_281 (q := (RX10, TX10, 34)) (ci := 10) rfl rfl hf (fun _ e1 => (oO_sp e1).1) (fun _ _ e1 => c_X10_of e1) rfl rfl hl.1 (Nat.le_of_ble_eq_true rfl) ⟨Nat.le_of_ble_eq_true rfl, Nat.le_of_ble_eq_true rfl⟩ ⟨Nat.zero_le _, Nat.zero_le _⟩ dX10_byMaking_56 (fun H locs v56 h56 hH hf => ?_)
    refine lv_i2l (v := (Int32.toInt64 v56)) hx hb dX10_byMaking_59 rfl ?_
    refine lv_ladd hx hb dX10_byMaking_60 ?_
    refine lv_aload_n hx hb dX10_byMaking_61 rfl (lv_at hl 1 rfl) ?_
    refine lv_iload_n hx hb dX10_byMaking_62 rfl (lv_at hl 2 rfl) ?_
    refine lv_bipush (v := (10 : Int32)) hx hb dX10_byMaking_63 (by decide) ?_
    refine pg_Vi (As := [.int x1, .int (10 : Int32)]) C hH mi_X10_of vl_X10_281 (q := (RX10, TX10, 34)) (ci := 10) rfl rfl hf (fun _ e1 => (oO_sp e1).1) (fun _ _ e1 => c_X10_of e1) rfl rfl hl.1 (Nat.le_of_ble_eq_true rfl) ⟨Nat.le_of_ble_eq_true rfl, Nat.le_of_ble_eq_true rfl⟩ ⟨Nat.zero_le _, Nat.zero_le _⟩ dX10_byMaking_65 (fun H locs v65 h65 hH hf => ?_)
    refine lv_i2l (v := (Int32.toInt64 v65)) hx hb dX10_byMaking_68 rfl ?_
    refine lv_ladd hx hb dX10_byMaking_69 ?_
    refine lv_aload_n hx hb dX10_byMaking_70 rfl (lv_at hl 1 rfl) ?_
    refine lv_iload_n hx hb dX10_byMaking_71 rfl (lv_at hl 2 rfl) ?_
    refine pg_Vi (As := [.int x1]) C hH mi_X10_sharesOf vl_X10_328 (q := (RX10, TX10, 34)) (ci := 10) rfl rfl hf (fun _ e1 => (oO_sp e1).1) (fun _ _ e1 => c_X10_sharesOf e1) rfl rfl hl.1 (Nat.le_of_ble_eq_true rfl) ⟨Nat.le_of_ble_eq_true rfl, Nat.le_of_ble_eq_true rfl⟩ ⟨Nat.zero_le _, Nat.zero_le _⟩ dX10_byMaking_72 (fun H locs v72 h72 hH hf => ?_)
    refine lv_i2l (v := (Int32.toInt64 v72)) hx hb dX10_byMaking_75 rfl ?_
    refine lv_ladd hx hb dX10_byMaking_76 ?_
    exact pg_lret C hr hH hf dX10_byMaking_77
  · have hf := (if_pos cn).symm.trans hf
    refine lv_bipush (v := (51 : Int32)) hx hb dX10_byMaking_16 (by decide) ?_
    refine pg_Sl (As := [.int (51 : Int32)]) C hH mi_X10_fails sl_X10_376 hf (fun _ _ e1 => c_X10_fails e1) rfl rfl hl.1 (Nat.le_of_ble_eq_true rfl) ⟨Nat.le_of_ble_eq_true rfl, Nat.le_of_ble_eq_true rfl⟩ ⟨Nat.zero_le _, Nat.zero_le _⟩ dX10_byMaking_18 (fun H locs v18 h18 hH hf => ?_)
    exact pg_lret C hr hH hf dX10_byMaking_21
set_option maxHeartbeats 4000000 in
set_option maxRecDepth 100000 in
theorem wX10_laysTests_b7 {r7 : PH → Nat → Int32 → Int32 → Option (PH)} {h' : PH} (C : CT g RX10 cX10_laysTests 3 (Cond.code yX10_laysTests cX10_laysTests 3 (none) :: TB) p s m args meth c) (hr : meth.sig.returnType = none) (k7 : ∀ {h : PH} {a0 : Nat} {x1 : Int32} {x2 : Int32} {H : Heap} {locs : List Loc} {ls : Array Slot}, HS g s H locs h → r7 h a0 x1 x2 = some h' → lv_has ls 3 [(0, .ref (gB g + a0)), (1, .int x1), (2, .int x2)] → W p l e (rmD 8 0 0) s m args below meth c H locs 0 0 (MQ below (QcV g h') args s 0 0 (aB g)) (F0 m 7 ls [])) {h : PH} {a0 : Nat} {x1 : Int32} {x2 : Int32} {H : Heap} {locs : List Loc} {ls : Array Slot} (hH : HS g s H locs h) (hf : mX10_laysTests_b7 r7 h a0 x1 x2 = some h') (hl : lv_has ls 3 [(0, .ref (gB g + a0)), (1, .int x1), (2, .int x2)]) : W p l e (rmD 8 0 0) s m args below meth c H locs 0 0 (MQ below (QcV g h') args s 0 0 (aB g)) (F0 m 7 ls []) := by
  obtain ⟨⟨hx, hb, hml, hown, hts⟩, htb, hlk, hkk, hbs⟩ := id C
  unfold mX10_laysTests_b7 at hf
  refine lv_iload_n hx hb dX10_laysTests_7 rfl (lv_at hl 2 rfl) ?_
  refine lv_aload_n hx hb dX10_laysTests_8 rfl (lv_at hl 0 rfl) ?_
  refine pg_gR C hH fl_X10_13 hf dX10_laysTests_9 (fun v9 hf => ?_)
  refine lv_iconst (v := (3 : Int32)) hx hb dX10_laysTests_12 (by decide) ?_
  refine pg_aI C hH hf dX10_laysTests_13 (fun v13 hf => ?_)
  refine lv_icmp_ge (tgt := 82) hx hb dX10_laysTests_14 (by decide) (fun cn => ?_) (fun cn => ?_)
  · have hf := (if_pos cn).symm.trans hf
    refine lv_aload_n hx hb dX10_laysTests_82 rfl (lv_at hl 0 rfl) ?_
    refine lv_aload_n hx hb dX10_laysTests_83 rfl (lv_at hl 0 rfl) ?_
    refine lv_iload_n hx hb dX10_laysTests_84 rfl (lv_at hl 1 rfl) ?_
    refine pg_Vl (As := [.int x1]) C hH mi_X10_byResold vl_X10_363 (q := (RX10, TX10, 34)) (ci := 10) rfl rfl hf (fun _ e1 => (oO_sp e1).1) (fun _ _ e1 => c_X10_byResold e1) rfl rfl hl.1 (Nat.le_of_ble_eq_true rfl) ⟨Nat.le_of_ble_eq_true rfl, Nat.le_of_ble_eq_true rfl⟩ ⟨Nat.zero_le _, Nat.zero_le _⟩ dX10_laysTests_85 (fun H locs v85 h85 hH hf => ?_)
    refine pg_Vv (As := [.long v85]) C hH mi_X10_adds vl_X10_359 (q := (RX10, TX10, 34)) (ci := 10) rfl rfl hf (fun _ e1 => (oO_sp e1).1) (fun _ e1 => c_X10_adds e1) rfl rfl hl.1 (Nat.le_of_ble_eq_true rfl) ⟨Nat.le_of_ble_eq_true rfl, Nat.le_of_ble_eq_true rfl⟩ ⟨Nat.zero_le _, Nat.zero_le _⟩ dX10_laysTests_88 (fun H locs h88 hH hf => ?_)
    refine lv_aload_n hx hb dX10_laysTests_91 rfl (lv_at hl 0 rfl) ?_
    refine lv_aload_n hx hb dX10_laysTests_92 rfl (lv_at hl 0 rfl) ?_
    refine lv_iload_n hx hb dX10_laysTests_93 rfl (lv_at hl 1 rfl) ?_
    refine pg_Vl (As := [.int x1]) C hH mi_X10_byMaking vl_X10_366 (q := (RX10, TX10, 34)) (ci := 10) rfl rfl hf (fun _ e1 => (oO_sp e1).1) (fun _ _ e1 => c_X10_byMaking e1) rfl rfl hl.1 (Nat.le_of_ble_eq_true rfl) ⟨Nat.le_of_ble_eq_true rfl, Nat.le_of_ble_eq_true rfl⟩ ⟨Nat.zero_le _, Nat.zero_le _⟩ dX10_laysTests_94 (fun H locs v94 h94 hH hf => ?_)
    refine pg_Vv (As := [.long v94]) C hH mi_X10_adds vl_X10_359 (q := (RX10, TX10, 34)) (ci := 10) rfl rfl hf (fun _ e1 => (oO_sp e1).1) (fun _ e1 => c_X10_adds e1) rfl rfl hl.1 (Nat.le_of_ble_eq_true rfl) ⟨Nat.le_of_ble_eq_true rfl, Nat.le_of_ble_eq_true rfl⟩ ⟨Nat.zero_le _, Nat.zero_le _⟩ dX10_laysTests_97 (fun H locs h97 hH hf => ?_)
    exact pg_vret C hr hH hf dX10_laysTests_100
  · have hf := (if_neg cn).symm.trans hf
    refine lv_iload_n hx hb dX10_laysTests_17 rfl (lv_at hl 2 rfl) ?_
    refine lv_iload_n hx hb dX10_laysTests_18 rfl (lv_at hl 1 rfl) ?_
    refine lv_icmp_eq (tgt := 76) hx hb dX10_laysTests_19 (by decide) (fun cn => ?_) (fun cn => ?_)
    · have hf := (if_pos cn).symm.trans hf
      refine lv_iinc (v := (x2 + 1)) (lv' := [(2, .int (x2 + 1)), (0, .ref (gB g + a0)), (1, .int x1)]) hx hb dX10_laysTests_76 hl (k := 2) rfl rfl (by decide) rfl (fun ls hl => ?_)
      refine lv_goto (tgt := 7) hx hb dX10_laysTests_79 (by decide) ?_
      exact k7 hH hf (lv_sub hl [1, 2, 0] rfl)
    · have hf := (if_neg cn).symm.trans hf
      refine lv_aload_n hx hb dX10_laysTests_22 rfl (lv_at hl 0 rfl) ?_
      refine lv_iload_n hx hb dX10_laysTests_23 rfl (lv_at hl 2 rfl) ?_
      refine pg_Vi (As := [.int x2]) C hH mi_X10_isThere vl_X10_304 (q := (RX10, TX10, 34)) (ci := 10) rfl rfl hf (fun _ e1 => (oO_sp e1).1) (fun _ _ e1 => c_X10_isThere e1) rfl rfl hl.1 (Nat.le_of_ble_eq_true rfl) ⟨Nat.le_of_ble_eq_true rfl, Nat.le_of_ble_eq_true rfl⟩ ⟨Nat.zero_le _, Nat.zero_le _⟩ dX10_laysTests_24 (fun H locs v24 h24 hH hf => ?_)
      refine lv_if_eq (tgt := 76) hx hb dX10_laysTests_27 (by decide) (fun cn => ?_) (fun cn => ?_)
      · have hf := (if_pos cn).symm.trans hf
        refine lv_iinc (v := (x2 + 1)) (lv' := [(2, .int (x2 + 1)), (0, .ref (gB g + a0)), (1, .int x1)]) hx hb dX10_laysTests_76 hl (k := 2) rfl rfl (by decide) rfl (fun ls hl => ?_)
        refine lv_goto (tgt := 7) hx hb dX10_laysTests_79 (by decide) ?_
        exact k7 hH hf (lv_sub hl [1, 2, 0] rfl)
      · have hf := (if_neg cn).symm.trans hf
        refine lv_aload_n hx hb dX10_laysTests_30 rfl (lv_at hl 0 rfl) ?_
        refine lv_iload_n hx hb dX10_laysTests_31 rfl (lv_at hl 2 rfl) ?_
        refine lv_bipush (v := (6 : Int32)) hx hb dX10_laysTests_32 (by decide) ?_
        refine pg_Vi (As := [.int x2, .int (6 : Int32)]) C hH mi_X10_of vl_X10_281 (q := (RX10, TX10, 34)) (ci := 10) rfl rfl hf (fun _ e1 => (oO_sp e1).1) (fun _ _ e1 => c_X10_of e1) rfl rfl hl.1 (Nat.le_of_ble_eq_true rfl) ⟨Nat.le_of_ble_eq_true rfl, Nat.le_of_ble_eq_true rfl⟩ ⟨Nat.zero_le _, Nat.zero_le _⟩ dX10_laysTests_34 (fun H locs v34 h34 hH hf => ?_)
        refine lv_if_ne (tgt := 76) hx hb dX10_laysTests_37 (by decide) (fun cn => ?_) (fun cn => ?_)
        · have hf := (if_neg cn).symm.trans hf
          refine lv_iinc (v := (x2 + 1)) (lv' := [(2, .int (x2 + 1)), (0, .ref (gB g + a0)), (1, .int x1)]) hx hb dX10_laysTests_76 hl (k := 2) rfl rfl (by decide) rfl (fun ls hl => ?_)
          refine lv_goto (tgt := 7) hx hb dX10_laysTests_79 (by decide) ?_
          exact k7 hH hf (lv_sub hl [1, 2, 0] rfl)
        · have hf := (if_pos cn).symm.trans hf
          refine lv_aload_n hx hb dX10_laysTests_40 rfl (lv_at hl 0 rfl) ?_
          refine lv_iload_n hx hb dX10_laysTests_41 rfl (lv_at hl 2 rfl) ?_
          refine pg_Vi (As := [.int x2]) C hH mi_X10_isBetweenKin vl_X10_347 (q := (RX10, TX10, 34)) (ci := 10) rfl rfl hf (fun _ e1 => (oO_sp e1).1) (fun _ _ e1 => c_X10_isBetweenKin e1) rfl rfl hl.1 (Nat.le_of_ble_eq_true rfl) ⟨Nat.le_of_ble_eq_true rfl, Nat.le_of_ble_eq_true rfl⟩ ⟨Nat.zero_le _, Nat.zero_le _⟩ dX10_laysTests_42 (fun H locs v42 h42 hH hf => ?_)
          refine lv_if_ne (tgt := 76) hx hb dX10_laysTests_45 (by decide) (fun cn => ?_) (fun cn => ?_)
          · have hf := (if_neg cn).symm.trans hf
            refine lv_iinc (v := (x2 + 1)) (lv' := [(2, .int (x2 + 1)), (0, .ref (gB g + a0)), (1, .int x1)]) hx hb dX10_laysTests_76 hl (k := 2) rfl rfl (by decide) rfl (fun ls hl => ?_)
            refine lv_goto (tgt := 7) hx hb dX10_laysTests_79 (by decide) ?_
            exact k7 hH hf (lv_sub hl [1, 2, 0] rfl)
          · have hf := (if_pos cn).symm.trans hf
            refine lv_aload_n hx hb dX10_laysTests_48 rfl (lv_at hl 0 rfl) ?_
            refine lv_iload_n hx hb dX10_laysTests_49 rfl (lv_at hl 1 rfl) ?_
            refine lv_iload_n hx hb dX10_laysTests_50 rfl (lv_at hl 2 rfl) ?_
            refine pg_Vi (As := [.int x1, .int x2]) C hH mi_X10_likeSales vl_X10_350 (q := (RX10, TX10, 34)) (ci := 10) rfl rfl hf (fun _ e1 => (oO_sp e1).1) (fun _ _ e1 => c_X10_likeSales e1) rfl rfl hl.1 (Nat.le_of_ble_eq_true rfl) ⟨Nat.le_of_ble_eq_true rfl, Nat.le_of_ble_eq_true rfl⟩ ⟨Nat.zero_le _, Nat.zero_le _⟩ dX10_laysTests_51 (fun H locs v51 h51 hH hf => ?_)
            refine lv_if_le (tgt := 76) hx hb dX10_laysTests_54 (by decide) (fun cn => ?_) (fun cn => ?_)
            · have hf := (if_pos cn).symm.trans hf
              refine lv_iinc (v := (x2 + 1)) (lv' := [(2, .int (x2 + 1)), (0, .ref (gB g + a0)), (1, .int x1)]) hx hb dX10_laysTests_76 hl (k := 2) rfl rfl (by decide) rfl (fun ls hl => ?_)
              refine lv_goto (tgt := 7) hx hb dX10_laysTests_79 (by decide) ?_
              exact k7 hH hf (lv_sub hl [1, 2, 0] rfl)
            · have hf := (if_neg cn).symm.trans hf
              refine lv_aload_n hx hb dX10_laysTests_57 rfl (lv_at hl 0 rfl) ?_
              refine lv_iload_n hx hb dX10_laysTests_58 rfl (lv_at hl 1 rfl) ?_
              refine lv_iload_n hx hb dX10_laysTests_59 rfl (lv_at hl 2 rfl) ?_
              refine pg_Vi (As := [.int x1, .int x2]) C hH mi_X10_isNearDay vl_X10_353 (q := (RX10, TX10, 34)) (ci := 10) rfl rfl hf (fun _ e1 => (oO_sp e1).1) (fun _ _ e1 => c_X10_isNearDay e1) rfl rfl hl.1 (Nat.le_of_ble_eq_true rfl) ⟨Nat.le_of_ble_eq_true rfl, Nat.le_of_ble_eq_true rfl⟩ ⟨Nat.zero_le _, Nat.zero_le _⟩ dX10_laysTests_60 (fun H locs v60 h60 hH hf => ?_)
              refine lv_if_eq (tgt := 76) hx hb dX10_laysTests_63 (by decide) (fun cn => ?_) (fun cn => ?_)
              · have hf := (if_pos cn).symm.trans hf
                refine lv_iinc (v := (x2 + 1)) (lv' := [(2, .int (x2 + 1)), (0, .ref (gB g + a0)), (1, .int x1)]) hx hb dX10_laysTests_76 hl (k := 2) rfl rfl (by decide) rfl (fun ls hl => ?_)
                refine lv_goto (tgt := 7) hx hb dX10_laysTests_79 (by decide) ?_
                exact k7 hH hf (lv_sub hl [1, 2, 0] rfl)
              · have hf := (if_neg cn).symm.trans hf
                refine lv_aload_n hx hb dX10_laysTests_66 rfl (lv_at hl 0 rfl) ?_
                refine lv_aload_n hx hb dX10_laysTests_67 rfl (lv_at hl 0 rfl) ?_
                refine lv_iload_n hx hb dX10_laysTests_68 rfl (lv_at hl 1 rfl) ?_
                refine lv_iload_n hx hb dX10_laysTests_69 rfl (lv_at hl 2 rfl) ?_
                refine pg_Vl (As := [.int x1, .int x2]) C hH mi_X10_brought vl_X10_356 (q := (RX10, TX10, 34)) (ci := 10) rfl rfl hf (fun _ e1 => (oO_sp e1).1) (fun _ _ e1 => c_X10_brought e1) rfl rfl hl.1 (Nat.le_of_ble_eq_true rfl) ⟨Nat.le_of_ble_eq_true rfl, Nat.le_of_ble_eq_true rfl⟩ ⟨Nat.zero_le _, Nat.zero_le _⟩ dX10_laysTests_70 (fun H locs v70 h70 hH hf => ?_)
                refine pg_Vv (As := [.long v70]) C hH mi_X10_adds vl_X10_359 (q := (RX10, TX10, 34)) (ci := 10) rfl rfl hf (fun _ e1 => (oO_sp e1).1) (fun _ e1 => c_X10_adds e1) rfl rfl hl.1 (Nat.le_of_ble_eq_true rfl) ⟨Nat.le_of_ble_eq_true rfl, Nat.le_of_ble_eq_true rfl⟩ ⟨Nat.zero_le _, Nat.zero_le _⟩ dX10_laysTests_73 (fun H locs h73 hH hf => ?_)
                refine lv_iinc (v := (x2 + 1)) (lv' := [(2, .int (x2 + 1)), (0, .ref (gB g + a0)), (1, .int x1)]) hx hb dX10_laysTests_76 hl (k := 2) rfl rfl (by decide) rfl (fun ls hl => ?_)
                refine lv_goto (tgt := 7) hx hb dX10_laysTests_79 (by decide) ?_
                exact k7 hH hf (lv_sub hl [1, 2, 0] rfl)
set_option maxHeartbeats 4000000 in
set_option maxRecDepth 100000 in
theorem wX10_laysTests_L7 {h' : PH} (C : CT g RX10 cX10_laysTests 3 (Cond.code yX10_laysTests cX10_laysTests 3 (none) :: TB) p s m args meth c) (hr : meth.sig.returnType = none) : ∀ (n : Nat) {h : PH} {a0 : Nat} {x1 : Int32} {x2 : Int32} {H : Heap} {locs : List Loc} {ls : Array Slot}, HS g s H locs h → mX10_laysTests_L7 n h a0 x1 x2 = some h' → lv_has ls 3 [(0, .ref (gB g + a0)), (1, .int x1), (2, .int x2)] → W p l e (rmD 8 0 0) s m args below meth c H locs 0 0 (MQ below (QcV g h') args s 0 0 (aB g)) (F0 m 7 ls []) := by
  intro n
  induction n with
  | zero =>
    intro h a0 x1 x2 H locs ls hH hf hl
    exact absurd hf (by intro z; cases z)
  | succ n ih =>
    intro h a0 x1 x2 H locs ls hH hf hl
    have hf : mX10_laysTests_b7 (mX10_laysTests_L7 n) h a0 x1 x2 = some h' := hf
    exact wX10_laysTests_b7 C hr (fun a b c => ih a b c) hH hf hl
set_option maxHeartbeats 4000000 in
set_option maxRecDepth 100000 in
theorem c_X10_laysTests {l : Launch} {g : GD} {h : PH} {a0 : Nat} {x1 : Int32} {h' : PH} (hf : mX10_laysTests h a0 x1 = some h') : Met l yX10_laysTests (Cond.code yX10_laysTests cX10_laysTests 3 (none) :: TB) (rmD 8 0 0) (PcH g [.ref (gB g + a0), .int x1] h) (QcV g h') 0 0 (aB g) := by
  refine Met.ofW (cc := cX10_laysTests) (maxL := 3) (ret := none) (by decide) rfl ?_
  intro p e s m args below meth c s₁ B hml hv
  obtain ⟨rfl, hH0, hkk0⟩ := hv
  have C : CT g RX10 cX10_laysTests 3 (Cond.code yX10_laysTests cX10_laysTests 3 (none) :: TB) p s m _ meth c := pg_ct (Tw := []) B hml hH0 hkk0
  have hr := B.returns
  have hH : HS g s s.heap [] h := ⟨hH0, va_S.rf⟩
  have hl := lv_entry ([.ref (gB g + a0), .int x1]) (n := 3) (Nat.le_of_ble_eq_true rfl)
  rw [lg_entry_eq]
  generalize (lg_sl ([.ref (gB g + a0), .int x1]) ++ List.replicate (3 - (lg_sl ([.ref (gB g + a0), .int x1])).length) Slot.unset).toArray = ls at hl ⊢
  have hl : lv_has ls 3 [(0, .ref (gB g + a0)), (1, .int x1)] := hl
  show W p l e (rmD 8 0 0) _ _ _ _ _ _ _ _ _ _ _ _
  unfold mX10_laysTests at hf
  obtain ⟨hO, hf⟩ := oO_sp hf
  obtain ⟨⟨hx, hb, hml, hown, hts⟩, htb, hlk, hkk, hbs⟩ := id C
  refine lv_aload_n hx hb dX10_laysTests_0 rfl (lv_at hl 0 rfl) ?_
  refine lv_iconst (v := (0 : Int32)) hx hb dX10_laysTests_1 (by decide) ?_
  refine pg_pI C hH fl_X10_344 fm_10_27 hf dX10_laysTests_2 (fun H locs h2 hH hf => ?_)
  refine lv_iconst (v := (0 : Int32)) hx hb dX10_laysTests_5 (by decide) ?_
  refine lv_istore_n (lv' := [(2, .int (0 : Int32)), (0, .ref (gB g + a0)), (1, .int x1)]) hx hb dX10_laysTests_6 rfl hl (by decide) rfl (fun ls hl => ?_)
  exact wX10_laysTests_L7 C hr FU hH hf (lv_sub hl [1, 2, 0] rfl)
set_option maxHeartbeats 4000000 in
set_option maxRecDepth 100000 in
theorem wX10_isNear_b45 {r3 : PH → Nat → Int64 → Int32 → Int32 → Option (Int32 × PH)} {r : Int32} {h' : PH} (C : CT g RX10 cX10_isNear 7 (Cond.code yX10_isNear cX10_isNear 7 (some .boolean) :: TB) p s m args meth c) (hr : meth.sig.returnType = some .boolean) (k3 : ∀ {h : PH} {a0 : Nat} {x1 : Int64} {x3 : Int32} {x4 : Int32} {H : Heap} {locs : List Loc} {ls : Array Slot}, HS g s H locs h → r3 h a0 x1 x3 x4 = some (r, h') → lv_has ls 7 [(0, .ref (gB g + a0)), (1, .long x1), (3, .int x3), (4, .int x4)] → W p l e (rmD 0 0 0) s m args below meth c H locs 0 0 (MQ below (QcI g r h') args s 0 0 (aB g)) (F0 m 3 ls [])) {h : PH} {a0 : Nat} {x1 : Int64} {x3 : Int32} {x4 : Int32} {s0 : Int64} {H : Heap} {locs : List Loc} {ls : Array Slot} (hH : HS g s H locs h) (hf : mX10_isNear_b45 r3 h a0 x1 x3 x4 s0 = some (r, h')) (hl : lv_has ls 7 [(0, .ref (gB g + a0)), (1, .long x1), (3, .int x3), (4, .int x4)]) : W p l e (rmD 0 0 0) s m args below meth c H locs 0 0 (MQ below (QcI g r h') args s 0 0 (aB g)) (F0 m 45 ls [.long s0]) := by
  obtain ⟨⟨hx, hb, hml, hown, hts⟩, htb, hlk, hkk, hbs⟩ := id C
  unfold mX10_isNear_b45 at hf
  refine lv_lstore (lv' := [(5, .long s0), (0, .ref (gB g + a0)), (1, .long x1), (3, .int x3), (4, .int x4)]) hx hb dX10_isNear_45 hl (by decide) rfl (fun ls hl => ?_)
  refine lv_ldc2 (v := (100 : Int64)) hx hb hown (hts _ (htb _ kl_X10_326)) dX10_isNear_47 ?_
  refine lv_lload hx hb dX10_isNear_50 (lv_at hl 0 rfl) ?_
  refine lv_lmul hx hb dX10_isNear_52 ?_
  refine lv_iload_n hx hb dX10_isNear_53 rfl (lv_at hl 3 rfl) ?_
  refine lv_i2l (v := (Int32.toInt64 x3)) hx hb dX10_isNear_54 rfl ?_
  refine lv_aload_n hx hb dX10_isNear_55 rfl (lv_at hl 1 rfl) ?_
  refine pg_gR C hH fl_X10_50 hf dX10_isNear_56 (fun v56 hf => ?_)
  refine lv_iload hx hb dX10_isNear_59 (lv_at hl 4 rfl) ?_
  refine pg_aL C hH hf dX10_isNear_61 (fun v61 hf => ?_)
  refine lv_lmul hx hb dX10_isNear_62 ?_
  refine W.lcmp hx hb dX10_isNear_63 ?_
  refine lv_if_gt (tgt := 69) hx hb dX10_isNear_64 (by decide) (fun cn => ?_) (fun cn => ?_)
  · have hf := (if_pos ((lg_cmp_gt _ _).mp cn)).symm.trans hf
    refine lv_iinc (v := (x4 + 1)) (lv' := [(4, .int (x4 + 1)), (5, .long s0), (0, .ref (gB g + a0)), (1, .long x1), (3, .int x3)]) hx hb dX10_isNear_69 hl (k := 4) rfl rfl (by decide) rfl (fun ls hl => ?_)
    refine lv_goto (tgt := 3) hx hb dX10_isNear_72 (by decide) ?_
    exact k3 hH hf (lv_sub hl [2, 3, 4, 0] rfl)
  · have hf := (if_neg (fun z => cn ((lg_cmp_gt _ _).mpr z))).symm.trans hf
    refine lv_iconst (v := (1 : Int32)) hx hb dX10_isNear_67 (by decide) ?_
    exact pg_zret C hr hH hf dX10_isNear_68
set_option maxHeartbeats 4000000 in
set_option maxRecDepth 100000 in
theorem wX10_isNear_b3 {r3 : PH → Nat → Int64 → Int32 → Int32 → Option (Int32 × PH)} {r : Int32} {h' : PH} (C : CT g RX10 cX10_isNear 7 (Cond.code yX10_isNear cX10_isNear 7 (some .boolean) :: TB) p s m args meth c) (hr : meth.sig.returnType = some .boolean) (k3 : ∀ {h : PH} {a0 : Nat} {x1 : Int64} {x3 : Int32} {x4 : Int32} {H : Heap} {locs : List Loc} {ls : Array Slot}, HS g s H locs h → r3 h a0 x1 x3 x4 = some (r, h') → lv_has ls 7 [(0, .ref (gB g + a0)), (1, .long x1), (3, .int x3), (4, .int x4)] → W p l e (rmD 0 0 0) s m args below meth c H locs 0 0 (MQ below (QcI g r h') args s 0 0 (aB g)) (F0 m 3 ls [])) {h : PH} {a0 : Nat} {x1 : Int64} {x3 : Int32} {x4 : Int32} {H : Heap} {locs : List Loc} {ls : Array Slot} (hH : HS g s H locs h) (hf : mX10_isNear_b3 r3 h a0 x1 x3 x4 = some (r, h')) (hl : lv_has ls 7 [(0, .ref (gB g + a0)), (1, .long x1), (3, .int x3), (4, .int x4)]) : W p l e (rmD 0 0 0) s m args below meth c H locs 0 0 (MQ below (QcI g r h') args s 0 0 (aB g)) (F0 m 3 ls []) := by
  obtain ⟨⟨hx, hb, hml, hown, hts⟩, htb, hlk, hkk, hbs⟩ := id C
  unfold mX10_isNear_b3 at hf
  refine lv_iload hx hb dX10_isNear_3 (lv_at hl 3 rfl) ?_
  refine lv_aload_n hx hb dX10_isNear_5 rfl (lv_at hl 0 rfl) ?_
  refine pg_gI C hH fl_X10_344 hf dX10_isNear_6 (fun v6 hf => ?_)
  refine lv_icmp_ge (tgt := 75) hx hb dX10_isNear_9 (by decide) (fun cn => ?_) (fun cn => ?_)
  · have hf := (if_pos cn).symm.trans hf
    refine lv_iconst (v := (0 : Int32)) hx hb dX10_isNear_75 (by decide) ?_
    exact pg_zret C hr hH hf dX10_isNear_76
  · have hf := (if_neg cn).symm.trans hf
    refine lv_lload_n hx hb dX10_isNear_12 rfl (lv_at hl 1 rfl) ?_
    refine lv_aload_n hx hb dX10_isNear_13 rfl (lv_at hl 0 rfl) ?_
    refine pg_gR C hH fl_X10_50 hf dX10_isNear_14 (fun v14 hf => ?_)
    refine lv_iload hx hb dX10_isNear_17 (lv_at hl 3 rfl) ?_
    refine pg_aL C hH hf dX10_isNear_19 (fun v19 hf => ?_)
    refine W.lcmp hx hb dX10_isNear_20 ?_
    refine lv_if_le (tgt := 36) hx hb dX10_isNear_21 (by decide) (fun cn => ?_) (fun cn => ?_)
    · have hf := (if_pos ((lg_cmp_le _ _).mp cn)).symm.trans hf
      refine lv_aload_n hx hb dX10_isNear_36 rfl (lv_at hl 0 rfl) ?_
      refine pg_gR C hH fl_X10_50 hf dX10_isNear_37 (fun v37 hf => ?_)
      refine lv_iload hx hb dX10_isNear_40 (lv_at hl 3 rfl) ?_
      refine pg_aL C hH hf dX10_isNear_42 (fun v42 hf => ?_)
      refine lv_lload_n hx hb dX10_isNear_43 rfl (lv_at hl 1 rfl) ?_
      refine lv_lsub hx hb dX10_isNear_44 ?_
      exact wX10_isNear_b45 C hr k3 hH hf (lv_sub hl [0, 1, 2, 3] rfl)
    · have hf := (if_neg (fun z => cn ((lg_cmp_le _ _).mpr z))).symm.trans hf
      refine lv_lload_n hx hb dX10_isNear_24 rfl (lv_at hl 1 rfl) ?_
      refine lv_aload_n hx hb dX10_isNear_25 rfl (lv_at hl 0 rfl) ?_
      refine pg_gR C hH fl_X10_50 hf dX10_isNear_26 (fun v26 hf => ?_)
      refine lv_iload hx hb dX10_isNear_29 (lv_at hl 3 rfl) ?_
      refine pg_aL C hH hf dX10_isNear_31 (fun v31 hf => ?_)
      refine lv_lsub hx hb dX10_isNear_32 ?_
      refine lv_goto (tgt := 45) hx hb dX10_isNear_33 (by decide) ?_
      exact wX10_isNear_b45 C hr k3 hH hf (lv_sub hl [0, 1, 2, 3] rfl)
set_option maxHeartbeats 4000000 in
set_option maxRecDepth 100000 in
theorem wX10_isNear_L3 {r : Int32} {h' : PH} (C : CT g RX10 cX10_isNear 7 (Cond.code yX10_isNear cX10_isNear 7 (some .boolean) :: TB) p s m args meth c) (hr : meth.sig.returnType = some .boolean) : ∀ (n : Nat) {h : PH} {a0 : Nat} {x1 : Int64} {x3 : Int32} {x4 : Int32} {H : Heap} {locs : List Loc} {ls : Array Slot}, HS g s H locs h → mX10_isNear_L3 n h a0 x1 x3 x4 = some (r, h') → lv_has ls 7 [(0, .ref (gB g + a0)), (1, .long x1), (3, .int x3), (4, .int x4)] → W p l e (rmD 0 0 0) s m args below meth c H locs 0 0 (MQ below (QcI g r h') args s 0 0 (aB g)) (F0 m 3 ls []) := by
  intro n
  induction n with
  | zero =>
    intro h a0 x1 x3 x4 H locs ls hH hf hl
    exact absurd hf (by intro z; cases z)
  | succ n ih =>
    intro h a0 x1 x3 x4 H locs ls hH hf hl
    have hf : mX10_isNear_b3 (mX10_isNear_L3 n) h a0 x1 x3 x4 = some (r, h') := hf
    exact wX10_isNear_b3 C hr (fun a b c => ih a b c) hH hf hl
set_option maxHeartbeats 4000000 in
set_option maxRecDepth 100000 in
theorem c_X10_isNear {l : Launch} {g : GD} {h : PH} {a0 : Nat} {x1 : Int64} {x3 : Int32} {r : Int32} {h' : PH} (hf : mX10_isNear h a0 x1 x3 = some (r, h')) : Met l yX10_isNear (Cond.code yX10_isNear cX10_isNear 7 (some .boolean) :: TB) (rmD 0 0 0) (PcH g [.ref (gB g + a0), .long x1, .int x3] h) (QcI g r h') 0 0 (aB g) := by
  refine Met.ofW (cc := cX10_isNear) (maxL := 7) (ret := some .boolean) (by decide) rfl ?_
  intro p e s m args below meth c s₁ B hml hv
  obtain ⟨rfl, hH0, hkk0⟩ := hv
  have C : CT g RX10 cX10_isNear 7 (Cond.code yX10_isNear cX10_isNear 7 (some .boolean) :: TB) p s m _ meth c := pg_ct (Tw := []) B hml hH0 hkk0
  have hr := B.returns
  have hH : HS g s s.heap [] h := ⟨hH0, va_S.rf⟩
  have hl := lv_entry ([.ref (gB g + a0), .long x1, .int x3]) (n := 7) (Nat.le_of_ble_eq_true rfl)
  rw [lg_entry_eq]
  generalize (lg_sl ([.ref (gB g + a0), .long x1, .int x3]) ++ List.replicate (7 - (lg_sl ([.ref (gB g + a0), .long x1, .int x3])).length) Slot.unset).toArray = ls at hl ⊢
  have hl : lv_has ls 7 [(0, .ref (gB g + a0)), (1, .long x1), (3, .int x3)] := hl
  show W p l e (rmD 0 0 0) _ _ _ _ _ _ _ _ _ _ _ _
  unfold mX10_isNear at hf
  obtain ⟨hO, hf⟩ := oO_sp hf
  obtain ⟨⟨hx, hb, hml, hown, hts⟩, htb, hlk, hkk, hbs⟩ := id C
  refine lv_iconst (v := (0 : Int32)) hx hb dX10_isNear_0 (by decide) ?_
  refine lv_istore (lv' := [(4, .int (0 : Int32)), (0, .ref (gB g + a0)), (1, .long x1), (3, .int x3)]) hx hb dX10_isNear_1 hl (by decide) rfl (fun ls hl => ?_)
  exact wX10_isNear_L3 C hr FU hH hf (lv_sub hl [1, 2, 3, 0] rfl)
set_option maxHeartbeats 4000000 in
set_option maxRecDepth 100000 in
theorem c_X10_doesPass {l : Launch} {g : GD} {h : PH} {a0 : Nat} {x1 : Int32} {r : Int32} {h' : PH} (hf : mX10_doesPass h a0 x1 = some (r, h')) : Met l yX10_doesPass (Cond.code yX10_doesPass cX10_doesPass 2 (some .boolean) :: TB) (rmD 9 0 0) (PcH g [.ref (gB g + a0), .int x1] h) (QcI g r h') 0 0 (aB g) := by
  refine Met.ofW (cc := cX10_doesPass) (maxL := 2) (ret := some .boolean) (by decide) rfl ?_
  intro p e s m args below meth c s₁ B hml hv
  obtain ⟨rfl, hH0, hkk0⟩ := hv
  have C : CT g RX10 cX10_doesPass 2 (Cond.code yX10_doesPass cX10_doesPass 2 (some .boolean) :: TB) p s m _ meth c := pg_ct (Tw := []) B hml hH0 hkk0
  have hr := B.returns
  have hH : HS g s s.heap [] h := ⟨hH0, va_S.rf⟩
  have hl := lv_entry ([.ref (gB g + a0), .int x1]) (n := 2) (Nat.le_of_ble_eq_true rfl)
  rw [lg_entry_eq]
  generalize (lg_sl ([.ref (gB g + a0), .int x1]) ++ List.replicate (2 - (lg_sl ([.ref (gB g + a0), .int x1])).length) Slot.unset).toArray = ls at hl ⊢
  have hl : lv_has ls 2 [(0, .ref (gB g + a0)), (1, .int x1)] := hl
  show W p l e (rmD 9 0 0) _ _ _ _ _ _ _ _ _ _ _ _
  unfold mX10_doesPass at hf
  obtain ⟨hO, hf⟩ := oO_sp hf
  obtain ⟨⟨hx, hb, hml, hown, hts⟩, htb, hlk, hkk, hbs⟩ := id C
  refine lv_aload_n hx hb dX10_doesPass_0 rfl (lv_at hl 0 rfl) ?_
  refine lv_iload_n hx hb dX10_doesPass_1 rfl (lv_at hl 1 rfl) ?_
  refine pg_Vv (As := [.int x1]) C hH mi_X10_laysTests vl_X10_369 (q := (RX10, TX10, 34)) (ci := 10) rfl rfl hf (fun _ e1 => (oO_sp e1).1) (fun _ e1 => c_X10_laysTests e1) rfl rfl hl.1 (Nat.le_of_ble_eq_true rfl) ⟨Nat.le_of_ble_eq_true rfl, Nat.le_of_ble_eq_true rfl⟩ ⟨Nat.zero_le _, Nat.zero_le _⟩ dX10_doesPass_2 (fun H locs h2 hH hf => ?_)
  refine lv_aload_n hx hb dX10_doesPass_5 rfl (lv_at hl 0 rfl) ?_
  refine lv_aload_n hx hb dX10_doesPass_6 rfl (lv_at hl 0 rfl) ?_
  refine lv_iload_n hx hb dX10_doesPass_7 rfl (lv_at hl 1 rfl) ?_
  refine pg_Vl (As := [.int x1]) C hH mi_X10_ownOf vl_X10_335 (q := (RX10, TX10, 34)) (ci := 10) rfl rfl hf (fun _ e1 => (oO_sp e1).1) (fun _ _ e1 => c_X10_ownOf e1) rfl rfl hl.1 (Nat.le_of_ble_eq_true rfl) ⟨Nat.le_of_ble_eq_true rfl, Nat.le_of_ble_eq_true rfl⟩ ⟨Nat.zero_le _, Nat.zero_le _⟩ dX10_doesPass_8 (fun H locs v8 h8 hH hf => ?_)
  refine lv_aload_n hx hb dX10_doesPass_11 rfl (lv_at hl 0 rfl) ?_
  refine pg_gR C hH fl_X10_13 hf dX10_doesPass_12 (fun v12 hf => ?_)
  refine lv_bipush (v := (6 : Int32)) hx hb dX10_doesPass_15 (by decide) ?_
  refine pg_aI C hH hf dX10_doesPass_17 (fun v17 hf => ?_)
  refine pg_Vi (As := [.long v8, .int v17]) C hH mi_X10_isNear vl_X10_372 (q := (RX10, TX10, 34)) (ci := 10) rfl rfl hf (fun _ e1 => (oO_sp e1).1) (fun _ _ e1 => c_X10_isNear e1) rfl rfl hl.1 (Nat.le_of_ble_eq_true rfl) ⟨Nat.le_of_ble_eq_true rfl, Nat.le_of_ble_eq_true rfl⟩ ⟨Nat.zero_le _, Nat.zero_le _⟩ dX10_doesPass_18 (fun H locs v18 h18 hH hf => ?_)
  exact pg_zret C hr hH hf dX10_doesPass_21
set_option maxHeartbeats 4000000 in
set_option maxRecDepth 100000 in
theorem wX10_byOwn_b33 {r : Int64} {h' : PH} (C : CT g RX10 cX10_byOwn 2 (Cond.code yX10_byOwn cX10_byOwn 2 (some .long) :: TB) p s m args meth c) (hr : meth.sig.returnType = some .long) {h : PH} {a0 : Nat} {x1 : Int32} {H : Heap} {locs : List Loc} {ls : Array Slot} (hH : HS g s H locs h) (hf : mX10_byOwn_b33 h a0 x1 = some (r, h')) (hl : lv_has ls 2 [(0, .ref (gB g + a0)), (1, .int x1)]) : W p l e (rmD 10 0 0) s m args below meth c H locs 0 0 (MQ below (QcL g r h') args s 0 0 (aB g)) (F0 m 33 ls []) := by
  obtain ⟨⟨hx, hb, hml, hown, hts⟩, htb, hlk, hkk, hbs⟩ := id C
  unfold mX10_byOwn_b33 at hf
  refine lv_aload_n hx hb dX10_byOwn_33 rfl (lv_at hl 0 rfl) ?_
  refine lv_iload_n hx hb dX10_byOwn_34 rfl (lv_at hl 1 rfl) ?_
  refine pg_Vl (As := [.int x1]) C hH mi_X10_ownOf vl_X10_335 (q := (RX10, TX10, 34)) (ci := 10) rfl rfl hf (fun _ e1 => (oO_sp e1).1) (fun _ _ e1 => c_X10_ownOf e1) rfl rfl hl.1 (Nat.le_of_ble_eq_true rfl) ⟨Nat.le_of_ble_eq_true rfl, Nat.le_of_ble_eq_true rfl⟩ ⟨Nat.zero_le _, Nat.zero_le _⟩ dX10_byOwn_35 (fun H locs v35 h35 hH hf => ?_)
  exact pg_lret C hr hH hf dX10_byOwn_38
set_option maxHeartbeats 4000000 in
set_option maxRecDepth 100000 in
theorem wX10_byOwn_b53 {r : Int64} {h' : PH} (C : CT g RX10 cX10_byOwn 2 (Cond.code yX10_byOwn cX10_byOwn 2 (some .long) :: TB) p s m args meth c) (hr : meth.sig.returnType = some .long) {h : PH} {s0 : Int32} {H : Heap} {locs : List Loc} {ls : Array Slot} (hH : HS g s H locs h) (hf : mX10_byOwn_b53 h s0 = some (r, h')) (hl : lv_has ls 2 []) : W p l e (rmD 10 0 0) s m args below meth c H locs 0 0 (MQ below (QcL g r h') args s 0 0 (aB g)) (F0 m 53 ls [.int s0]) := by
  obtain ⟨⟨hx, hb, hml, hown, hts⟩, htb, hlk, hkk, hbs⟩ := id C
  unfold mX10_byOwn_b53 at hf
  refine pg_Sl (As := [.int s0]) C hH mi_X10_fails sl_X10_376 hf (fun _ _ e1 => c_X10_fails e1) rfl rfl hl.1 (Nat.le_of_ble_eq_true rfl) ⟨Nat.le_of_ble_eq_true rfl, Nat.le_of_ble_eq_true rfl⟩ ⟨Nat.zero_le _, Nat.zero_le _⟩ dX10_byOwn_53 (fun H locs v53 h53 hH hf => ?_)
  exact pg_lret C hr hH hf dX10_byOwn_56
set_option maxHeartbeats 4000000 in
set_option maxRecDepth 100000 in
theorem c_X10_byOwn {l : Launch} {g : GD} {h : PH} {a0 : Nat} {x1 : Int32} {r : Int64} {h' : PH} (hf : mX10_byOwn h a0 x1 = some (r, h')) : Met l yX10_byOwn (Cond.code yX10_byOwn cX10_byOwn 2 (some .long) :: TB) (rmD 10 0 0) (PcH g [.ref (gB g + a0), .int x1] h) (QcL g r h') 0 0 (aB g) := by
  refine Met.ofW (cc := cX10_byOwn) (maxL := 2) (ret := some .long) (by decide) rfl ?_
  intro p e s m args below meth c s₁ B hml hv
  obtain ⟨rfl, hH0, hkk0⟩ := hv
  have C : CT g RX10 cX10_byOwn 2 (Cond.code yX10_byOwn cX10_byOwn 2 (some .long) :: TB) p s m _ meth c := pg_ct (Tw := []) B hml hH0 hkk0
  have hr := B.returns
  have hH : HS g s s.heap [] h := ⟨hH0, va_S.rf⟩
  have hl := lv_entry ([.ref (gB g + a0), .int x1]) (n := 2) (Nat.le_of_ble_eq_true rfl)
  rw [lg_entry_eq]
  generalize (lg_sl ([.ref (gB g + a0), .int x1]) ++ List.replicate (2 - (lg_sl ([.ref (gB g + a0), .int x1])).length) Slot.unset).toArray = ls at hl ⊢
  have hl : lv_has ls 2 [(0, .ref (gB g + a0)), (1, .int x1)] := hl
  show W p l e (rmD 10 0 0) _ _ _ _ _ _ _ _ _ _ _ _
  unfold mX10_byOwn at hf
  obtain ⟨hO, hf⟩ := oO_sp hf
  obtain ⟨⟨hx, hb, hml, hown, hts⟩, htb, hlk, hkk, hbs⟩ := id C
  refine lv_aload_n hx hb dX10_byOwn_0 rfl (lv_at hl 0 rfl) ?_
  refine lv_iload_n hx hb dX10_byOwn_1 rfl (lv_at hl 1 rfl) ?_
  refine lv_bipush (v := (6 : Int32)) hx hb dX10_byOwn_2 (by decide) ?_
  refine pg_Vi (As := [.int x1, .int (6 : Int32)]) C hH mi_X10_of vl_X10_281 (q := (RX10, TX10, 34)) (ci := 10) rfl rfl hf (fun _ e1 => (oO_sp e1).1) (fun _ _ e1 => c_X10_of e1) rfl rfl hl.1 (Nat.le_of_ble_eq_true rfl) ⟨Nat.le_of_ble_eq_true rfl, Nat.le_of_ble_eq_true rfl⟩ ⟨Nat.zero_le _, Nat.zero_le _⟩ dX10_byOwn_4 (fun H locs v4 h4 hH hf => ?_)
  refine lv_iconst (v := (1 : Int32)) hx hb dX10_byOwn_7 (by decide) ?_
  refine lv_icmp_ne (tgt := 17) hx hb dX10_byOwn_8 (by decide) (fun cn => ?_) (fun cn => ?_)
  · have hf := (if_neg cn).symm.trans hf
    refine lv_aload_n hx hb dX10_byOwn_17 rfl (lv_at hl 0 rfl) ?_
    refine lv_iload_n hx hb dX10_byOwn_18 rfl (lv_at hl 1 rfl) ?_
    refine pg_Vi (As := [.int x1]) C hH mi_X10_isBetweenKin vl_X10_347 (q := (RX10, TX10, 34)) (ci := 10) rfl rfl hf (fun _ e1 => (oO_sp e1).1) (fun _ _ e1 => c_X10_isBetweenKin e1) rfl rfl hl.1 (Nat.le_of_ble_eq_true rfl) ⟨Nat.le_of_ble_eq_true rfl, Nat.le_of_ble_eq_true rfl⟩ ⟨Nat.zero_le _, Nat.zero_le _⟩ dX10_byOwn_19 (fun H locs v19 h19 hH hf => ?_)
    refine lv_if_eq (tgt := 33) hx hb dX10_byOwn_22 (by decide) (fun cn => ?_) (fun cn => ?_)
    · have hf := (if_pos cn).symm.trans hf
      exact wX10_byOwn_b33 C hr hH hf (lv_sub hl [0, 1] rfl)
    · have hf := (if_neg cn).symm.trans hf
      refine lv_aload_n hx hb dX10_byOwn_25 rfl (lv_at hl 0 rfl) ?_
      refine lv_iload_n hx hb dX10_byOwn_26 rfl (lv_at hl 1 rfl) ?_
      refine pg_Vi (As := [.int x1]) C hH mi_X10_doesPass vl_X10_379 (q := (RX10, TX10, 34)) (ci := 10) rfl rfl hf (fun _ e1 => (oO_sp e1).1) (fun _ _ e1 => c_X10_doesPass e1) rfl rfl hl.1 (Nat.le_of_ble_eq_true rfl) ⟨Nat.le_of_ble_eq_true rfl, Nat.le_of_ble_eq_true rfl⟩ ⟨Nat.zero_le _, Nat.zero_le _⟩ dX10_byOwn_27 (fun H locs v27 h27 hH hf => ?_)
      refine lv_if_eq (tgt := 39) hx hb dX10_byOwn_30 (by decide) (fun cn => ?_) (fun cn => ?_)
      · have hf := (if_pos cn).symm.trans hf
        refine lv_aload_n hx hb dX10_byOwn_39 rfl (lv_at hl 0 rfl) ?_
        refine pg_gI C hH fl_X10_344 hf dX10_byOwn_40 (fun v40 hf => ?_)
        refine lv_if_ne (tgt := 51) hx hb dX10_byOwn_43 (by decide) (fun cn => ?_) (fun cn => ?_)
        · have hf := (if_neg cn).symm.trans hf
          refine lv_bipush (v := (13 : Int32)) hx hb dX10_byOwn_51 (by decide) ?_
          exact wX10_byOwn_b53 C hr hH hf (lv_sub hl [] rfl)
        · have hf := (if_pos cn).symm.trans hf
          refine lv_bipush (v := (12 : Int32)) hx hb dX10_byOwn_46 (by decide) ?_
          refine lv_goto (tgt := 53) hx hb dX10_byOwn_48 (by decide) ?_
          exact wX10_byOwn_b53 C hr hH hf (lv_sub hl [] rfl)
      · have hf := (if_neg cn).symm.trans hf
        exact wX10_byOwn_b33 C hr hH hf (lv_sub hl [0, 1] rfl)
  · have hf := (if_pos cn).symm.trans hf
    refine lv_bipush (v := (11 : Int32)) hx hb dX10_byOwn_11 (by decide) ?_
    refine pg_Sl (As := [.int (11 : Int32)]) C hH mi_X10_fails sl_X10_376 hf (fun _ _ e1 => c_X10_fails e1) rfl rfl hl.1 (Nat.le_of_ble_eq_true rfl) ⟨Nat.le_of_ble_eq_true rfl, Nat.le_of_ble_eq_true rfl⟩ ⟨Nat.zero_le _, Nat.zero_le _⟩ dX10_byOwn_13 (fun H locs v13 h13 hH hf => ?_)
    exact pg_lret C hr hH hf dX10_byOwn_16
end WK6
