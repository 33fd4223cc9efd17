/-! ===== 23: walks (by program) ===== -/
section WK3
variable {p : Program} {l : Launch} {e : Env} {s : State} {m : MethodId} {args : Array Value} {below : List Frame} {meth : Method} {c : Code} {g : GD}
set_option maxHeartbeats 4000000 in
set_option maxRecDepth 100000 in
theorem c_X6_init {l : Launch} {g : GD} {h : PH} {a0 : Nat} {h' : PH} (hf : mX6_init h a0 = some h') : Met l yX6_init (Cond.code yX6_init cX6_init 1 (none) :: TB) (rmD 1 1 900) (PcH g [.ref (gB g + a0)] h) (QcV g h') 1 900 (aB g) := by
  refine Met.ofW (cc := cX6_init) (maxL := 1) (ret := none) (by decide) rfl ?_
  intro p e s m args below meth c s₁ B hml hv
  obtain ⟨rfl, hH0, hkk0⟩ := hv
  have C : CT g RX6 cX6_init 1 (Cond.code yX6_init cX6_init 1 (none) :: TB) p s m _ meth c := pg_ct (Tw := []) B hml hH0 hkk0
  have hr := B.returns
  have hH : HS g s s.heap [] h := ⟨hH0, va_S.rf⟩
  have hl := lv_entry ([.ref (gB g + a0)]) (n := 1) (Nat.le_of_ble_eq_true rfl)
  rw [lg_entry_eq]
  generalize (lg_sl ([.ref (gB g + a0)]) ++ List.replicate (1 - (lg_sl ([.ref (gB g + a0)])).length) Slot.unset).toArray = ls at hl ⊢
  have hl : lv_has ls 1 [(0, .ref (gB g + a0))] := hl
  show W p l e (rmD 1 1 900) _ _ _ _ _ _ _ _ _ _ _ _
  unfold mX6_init at hf
  obtain ⟨hO, hf⟩ := oO_sp hf
  have hin : meth.name = "<init>" := (name_of_methodNamed B.named B.method).1
  obtain ⟨⟨hx, hb, hml, hown, hts⟩, htb, hlk, hkk, hbs⟩ := id C
  refine lv_aload_n hx hb dX6_init_0 rfl (lv_at hl 0 rfl) ?_
  refine pg_obj C oi_X6_3 hl.1 (Nat.le_of_ble_eq_true rfl) (Nat.le_of_ble_eq_true rfl) dX6_init_1 ?_
  refine lv_aload_n hx hb dX6_init_4 rfl (lv_at hl 0 rfl) ?_
  refine lv_sipush (v := (900 : Int32)) hx hb dX6_init_5 (by decide) ?_
  refine pg_newB (N' := 900) C hH ar_B hf (by decide) (by decide) (Nat.le_of_ble_eq_true rfl) (Nat.le_of_ble_eq_true rfl) (Nat.le_of_ble_eq_true rfl) dX6_init_8 (fun H n8_0 h8_0 hH hf => ?_)
  refine W.widen (k := 1) (n := 900) (Nat.le_of_ble_eq_true rfl) (Nat.le_of_ble_eq_true rfl) ?_
  refine pg_pR C hin hH fl_X6_9 ff_6_0 rfl rfl hf dX6_init_10 (fun H locs h10_1 hH hf => ?_)
  exact pg_vret C hr hH hf dX6_init_13
set_option maxHeartbeats 4000000 in
set_option maxRecDepth 100000 in
theorem wX6_add_b3 {r3 : PH → Nat → Int32 → Int32 → Option (PH)} {h' : PH} (C : CT g RX6 cX6_add 3 (Cond.code yX6_add cX6_add 3 (none) :: TB) p s m args meth c) (hr : meth.sig.returnType = none) (k3 : ∀ {h : PH} {a0 : Nat} {x1 : Int32} {x2 : Int32} {H : Heap} {locs : List Loc} {ls : Array Slot}, HS g s H locs h → r3 h a0 x1 x2 = some h' → lv_has ls 3 [(0, .ref (gB g + a0)), (1, .int x1), (2, .int x2)] → W p l e (rmD 0 0 0) s m args below meth c H locs 0 0 (MQ below (QcV g h') args s 0 0 (aB g)) (F0 m 3 ls [])) {h : PH} {a0 : Nat} {x1 : Int32} {x2 : Int32} {H : Heap} {locs : List Loc} {ls : Array Slot} (hH : HS g s H locs h) (hf : mX6_add_b3 r3 h a0 x1 x2 = some h') (hl : lv_has ls 3 [(0, .ref (gB g + a0)), (1, .int x1), (2, .int x2)]) : W p l e (rmD 0 0 0) s m args below meth c H locs 0 0 (MQ below (QcV g h') args s 0 0 (aB g)) (F0 m 3 ls []) := by
  obtain ⟨⟨hx, hb, hml, hown, hts⟩, htb, hlk, hkk, hbs⟩ := id C
  unfold mX6_add_b3 at hf
  refine lv_iload_n hx hb dX6_add_3 rfl (lv_at hl 2 rfl) ?_
  refine lv_if_lt (tgt := 46) hx hb dX6_add_4 (by decide) (fun cn => ?_) (fun cn => ?_)
  · have hf := (if_pos cn).symm.trans hf
    exact pg_vret C hr hH hf dX6_add_46
  · have hf := (if_neg cn).symm.trans hf
    refine lv_aload_n hx hb dX6_add_7 rfl (lv_at hl 0 rfl) ?_
    refine pg_gI C hH fl_X6_15 hf dX6_add_8 (fun v8 hf => ?_)
    refine lv_sipush (v := (900 : Int32)) hx hb dX6_add_11 (by decide) ?_
    refine lv_icmp_ge (tgt := 46) hx hb dX6_add_14 (by decide) (fun cn => ?_) (fun cn => ?_)
    · have hf := (if_pos cn).symm.trans hf
      exact pg_vret C hr hH hf dX6_add_46
    · have hf := (if_neg cn).symm.trans hf
      refine lv_aload_n hx hb dX6_add_17 rfl (lv_at hl 0 rfl) ?_
      refine pg_gR C hH fl_X6_9 hf dX6_add_18 (fun v18 hf => ?_)
      refine lv_aload_n hx hb dX6_add_21 rfl (lv_at hl 0 rfl) ?_
      refine pg_gI C hH fl_X6_15 hf dX6_add_22 (fun v22 hf => ?_)
      refine lv_iload_n hx hb dX6_add_25 rfl (lv_at hl 1 rfl) ?_
      refine lv_iload_n hx hb dX6_add_26 rfl (lv_at hl 2 rfl) ?_
      refine lv_ishr hx hb dX6_add_27 ?_
      refine lv_i2b (v := (Int8.toInt32 (Int32.toInt8 (x1 >>> (x2 &&& 31))))) hx hb dX6_add_28 rfl ?_
      refine pg_sB C hH hf dX6_add_29 (fun H locs h29 hH hf => ?_)
      refine lv_aload_n hx hb dX6_add_30 rfl (lv_at hl 0 rfl) ?_
      refine lv_dup hx hb dX6_add_31 rfl ?_
      refine pg_gI C hH fl_X6_15 hf dX6_add_32 (fun v32 hf => ?_)
      refine lv_iconst (v := (1 : Int32)) hx hb dX6_add_35 (by decide) ?_
      refine lv_iadd hx hb dX6_add_36 ?_
      refine pg_pI C hH fl_X6_15 fm_6_1 hf dX6_add_37 (fun H locs h37 hH hf => ?_)
      refine lv_iinc (v := (x2 + (-8))) (lv' := [(2, .int (x2 + (-8))), (0, .ref (gB g + a0)), (1, .int x1)]) hx hb dX6_add_40 hl (k := 2) rfl rfl (by decide) rfl (fun ls hl => ?_)
      refine lv_goto (tgt := 3) hx hb dX6_add_43 (by decide) ?_
      exact k3 hH hf (lv_sub hl [1, 2, 0] rfl)
set_option maxHeartbeats 4000000 in
set_option maxRecDepth 100000 in
theorem wX6_add_L3 {h' : PH} (C : CT g RX6 cX6_add 3 (Cond.code yX6_add cX6_add 3 (none) :: TB) p s m args meth c) (hr : meth.sig.returnType = none) : ∀ (n : Nat) {h : PH} {a0 : Nat} {x1 : Int32} {x2 : Int32} {H : Heap} {locs : List Loc} {ls : Array Slot}, HS g s H locs h → mX6_add_L3 n h a0 x1 x2 = some h' → lv_has ls 3 [(0, .ref (gB g + a0)), (1, .int x1), (2, .int x2)] → W p l e (rmD 0 0 0) s m args below meth c H locs 0 0 (MQ below (QcV g h') args s 0 0 (aB g)) (F0 m 3 ls []) := by
  intro n
  induction n with
  | zero =>
    intro h a0 x1 x2 H locs ls hH hf hl
    exact absurd hf (by intro z; cases z)
  | succ n ih =>
    intro h a0 x1 x2 H locs ls hH hf hl
    have hf : mX6_add_b3 (mX6_add_L3 n) h a0 x1 x2 = some h' := hf
    exact wX6_add_b3 C hr (fun a b c => ih a b c) hH hf hl
set_option maxHeartbeats 4000000 in
set_option maxRecDepth 100000 in
theorem c_X6_add {l : Launch} {g : GD} {h : PH} {a0 : Nat} {x1 : Int32} {h' : PH} (hf : mX6_add h a0 x1 = some h') : Met l yX6_add (Cond.code yX6_add cX6_add 3 (none) :: TB) (rmD 0 0 0) (PcH g [.ref (gB g + a0), .int x1] h) (QcV g h') 0 0 (aB g) := by
  refine Met.ofW (cc := cX6_add) (maxL := 3) (ret := none) (by decide) rfl ?_
  intro p e s m args below meth c s₁ B hml hv
  obtain ⟨rfl, hH0, hkk0⟩ := hv
  have C : CT g RX6 cX6_add 3 (Cond.code yX6_add cX6_add 3 (none) :: TB) p s m _ meth c := pg_ct (Tw := []) B hml hH0 hkk0
  have hr := B.returns
  have hH : HS g s s.heap [] h := ⟨hH0, va_S.rf⟩
  have hl := lv_entry ([.ref (gB g + a0), .int x1]) (n := 3) (Nat.le_of_ble_eq_true rfl)
  rw [lg_entry_eq]
  generalize (lg_sl ([.ref (gB g + a0), .int x1]) ++ List.replicate (3 - (lg_sl ([.ref (gB g + a0), .int x1])).length) Slot.unset).toArray = ls at hl ⊢
  have hl : lv_has ls 3 [(0, .ref (gB g + a0)), (1, .int x1)] := hl
  show W p l e (rmD 0 0 0) _ _ _ _ _ _ _ _ _ _ _ _
  unfold mX6_add at hf
  obtain ⟨hO, hf⟩ := oO_sp hf
  obtain ⟨⟨hx, hb, hml, hown, hts⟩, htb, hlk, hkk, hbs⟩ := id C
  refine lv_bipush (v := (24 : Int32)) hx hb dX6_add_0 (by decide) ?_
  refine lv_istore_n (lv' := [(2, .int (24 : Int32)), (0, .ref (gB g + a0)), (1, .int x1)]) hx hb dX6_add_2 rfl hl (by decide) rfl (fun ls hl => ?_)
  exact wX6_add_L3 C hr FU hH hf (lv_sub hl [1, 2, 0] rfl)
set_option maxHeartbeats 4000000 in
set_option maxRecDepth 100000 in
theorem c_X8_init {l : Launch} {g : GD} {h : PH} {a0 : Nat} {h' : PH} (hf : mX8_init h a0 = some h') : Met l yX8_init (Cond.code yX8_init cX8_init 1 (none) :: TB) (rmD 2 44 274) (PcH g [.ref (gB g + a0)] h) (QcV g h') 44 274 (aB g) := by
  refine Met.ofW (cc := cX8_init) (maxL := 1) (ret := none) (by decide) rfl ?_
  intro p e s m args below meth c s₁ B hml hv
  obtain ⟨rfl, hH0, hkk0⟩ := hv
  have C : CT g RX8 cX8_init 1 (Cond.code yX8_init cX8_init 1 (none) :: TB) p s m _ meth c := pg_ct (Tw := []) B hml hH0 hkk0
  have hr := B.returns
  have hH : HS g s s.heap [] h := ⟨hH0, va_S.rf⟩
  have hl := lv_entry ([.ref (gB g + a0)]) (n := 1) (Nat.le_of_ble_eq_true rfl)
  rw [lg_entry_eq]
  generalize (lg_sl ([.ref (gB g + a0)]) ++ List.replicate (1 - (lg_sl ([.ref (gB g + a0)])).length) Slot.unset).toArray = ls at hl ⊢
  have hl : lv_has ls 1 [(0, .ref (gB g + a0))] := hl
  show W p l e (rmD 2 44 274) _ _ _ _ _ _ _ _ _ _ _ _
  unfold mX8_init at hf
  obtain ⟨hO, hf⟩ := oO_sp hf
  have hin : meth.name = "<init>" := (name_of_methodNamed B.named B.method).1
  obtain ⟨⟨hx, hb, hml, hown, hts⟩, htb, hlk, hkk, hbs⟩ := id C
  refine lv_aload_n hx hb dX8_init_0 rfl (lv_at hl 0 rfl) ?_
  refine pg_obj C oi_X8_3 hl.1 (Nat.le_of_ble_eq_true rfl) (Nat.le_of_ble_eq_true rfl) dX8_init_1 ?_
  refine lv_aload_n hx hb dX8_init_4 rfl (lv_at hl 0 rfl) ?_
  refine lv_bipush (v := (14 : Int32)) hx hb dX8_init_5 (by decide) ?_
  refine pg_newI (N' := 14) C hH ar_I hf (by decide) (by decide) (Nat.le_of_ble_eq_true rfl) (Nat.le_of_ble_eq_true rfl) (Nat.le_of_ble_eq_true rfl) dX8_init_7 (fun H n7_0 h7_0 hH hf => ?_)
  refine W.widen (k := 1) (n := 14) (Nat.le_of_ble_eq_true rfl) (Nat.le_of_ble_eq_true rfl) ?_
  refine pg_pR C hin hH fl_X8_9 ff_8_0 rfl rfl hf dX8_init_9 (fun H locs h9_1 hH hf => ?_)
  refine lv_aload_n hx hb dX8_init_12 rfl (lv_at hl 0 rfl) ?_
  refine lv_bipush (v := (6 : Int32)) hx hb dX8_init_13 (by decide) ?_
  refine pg_newI (N' := 6) C hH ar_I hf (by decide) (by decide) (Nat.le_of_ble_eq_true rfl) (Nat.le_of_ble_eq_true rfl) (Nat.le_of_ble_eq_true rfl) dX8_init_15 (fun H n15_2 h15_2 hH hf => ?_)
  refine W.widen (k := 2) (n := 20) (Nat.le_of_ble_eq_true rfl) (Nat.le_of_ble_eq_true rfl) ?_
  refine pg_pR C hin hH fl_X8_15 ff_8_1 rfl rfl hf dX8_init_17 (fun H locs h17_3 hH hf => ?_)
  refine lv_aload_n hx hb dX8_init_20 rfl (lv_at hl 0 rfl) ?_
  refine lv_bipush (v := (6 : Int32)) hx hb dX8_init_21 (by decide) ?_
  refine lv_iconst (v := (4 : Int32)) hx hb dX8_init_23 (by decide) ?_
  refine pg_mna (N' := 6) (K' := 4) C hH mw_X8_18 ar_I hf (by decide) (by decide) (by decide) (by decide) (Nat.le_of_ble_eq_true rfl) (Nat.le_of_ble_eq_true rfl) (Nat.le_of_ble_eq_true rfl) (Nat.le_of_ble_eq_true rfl) (Nat.le_of_ble_eq_true rfl) dX8_init_24 (fun H n24_4 h24_4 hH hf => ?_)
  refine W.widen (k := 9) (n := 50) (Nat.le_of_ble_eq_true rfl) (Nat.le_of_ble_eq_true rfl) ?_
  refine pg_pR C hin hH fl_X8_20 ff_8_2 rfl rfl hf dX8_init_28 (fun H locs h28_5 hH hf => ?_)
  refine lv_aload_n hx hb dX8_init_31 rfl (lv_at hl 0 rfl) ?_
  refine lv_iconst (v := (4 : Int32)) hx hb dX8_init_32 (by decide) ?_
  refine lv_iconst (v := (2 : Int32)) hx hb dX8_init_33 (by decide) ?_
  refine pg_mna (N' := 4) (K' := 2) C hH mw_X8_18 ar_I hf (by decide) (by decide) (by decide) (by decide) (Nat.le_of_ble_eq_true rfl) (Nat.le_of_ble_eq_true rfl) (Nat.le_of_ble_eq_true rfl) (Nat.le_of_ble_eq_true rfl) (Nat.le_of_ble_eq_true rfl) dX8_init_34 (fun H n34_6 h34_6 hH hf => ?_)
  refine W.widen (k := 14) (n := 62) (Nat.le_of_ble_eq_true rfl) (Nat.le_of_ble_eq_true rfl) ?_
  refine pg_pR C hin hH fl_X8_23 ff_8_3 rfl rfl hf dX8_init_38 (fun H locs h38_7 hH hf => ?_)
  refine lv_aload_n hx hb dX8_init_41 rfl (lv_at hl 0 rfl) ?_
  refine lv_bipush (v := (10 : Int32)) hx hb dX8_init_42 (by decide) ?_
  refine lv_bipush (v := (12 : Int32)) hx hb dX8_init_44 (by decide) ?_
  refine pg_mna (N' := 10) (K' := 12) C hH mw_X8_18 ar_I hf (by decide) (by decide) (by decide) (by decide) (Nat.le_of_ble_eq_true rfl) (Nat.le_of_ble_eq_true rfl) (Nat.le_of_ble_eq_true rfl) (Nat.le_of_ble_eq_true rfl) (Nat.le_of_ble_eq_true rfl) dX8_init_46 (fun H n46_8 h46_8 hH hf => ?_)
  refine W.widen (k := 25) (n := 192) (Nat.le_of_ble_eq_true rfl) (Nat.le_of_ble_eq_true rfl) ?_
  refine pg_pR C hin hH fl_X8_26 ff_8_4 rfl rfl hf dX8_init_50 (fun H locs h50_9 hH hf => ?_)
  refine lv_aload_n hx hb dX8_init_53 rfl (lv_at hl 0 rfl) ?_
  refine lv_bipush (v := (10 : Int32)) hx hb dX8_init_54 (by decide) ?_
  refine pg_newL (N' := 10) C hH ar_L hf (by decide) (by decide) (Nat.le_of_ble_eq_true rfl) (Nat.le_of_ble_eq_true rfl) (Nat.le_of_ble_eq_true rfl) dX8_init_56 (fun H n56_10 h56_10 hH hf => ?_)
  refine W.widen (k := 26) (n := 202) (Nat.le_of_ble_eq_true rfl) (Nat.le_of_ble_eq_true rfl) ?_
  refine pg_pR C hin hH fl_X8_29 ff_8_5 rfl rfl hf dX8_init_58 (fun H locs h58_11 hH hf => ?_)
  refine lv_aload_n hx hb dX8_init_61 rfl (lv_at hl 0 rfl) ?_
  refine lv_bipush (v := (12 : Int32)) hx hb dX8_init_62 (by decide) ?_
  refine lv_iconst (v := (4 : Int32)) hx hb dX8_init_64 (by decide) ?_
  refine pg_mna (N' := 12) (K' := 4) C hH mw_X8_18 ar_I hf (by decide) (by decide) (by decide) (by decide) (Nat.le_of_ble_eq_true rfl) (Nat.le_of_ble_eq_true rfl) (Nat.le_of_ble_eq_true rfl) (Nat.le_of_ble_eq_true rfl) (Nat.le_of_ble_eq_true rfl) dX8_init_65 (fun H n65_12 h65_12 hH hf => ?_)
  refine W.widen (k := 39) (n := 262) (Nat.le_of_ble_eq_true rfl) (Nat.le_of_ble_eq_true rfl) ?_
  refine pg_pR C hin hH fl_X8_33 ff_8_6 rfl rfl hf dX8_init_69 (fun H locs h69_13 hH hf => ?_)
  refine lv_aload_n hx hb dX8_init_72 rfl (lv_at hl 0 rfl) ?_
  refine lv_iconst (v := (4 : Int32)) hx hb dX8_init_73 (by decide) ?_
  refine lv_iconst (v := (2 : Int32)) hx hb dX8_init_74 (by decide) ?_
  refine pg_mna (N' := 4) (K' := 2) C hH mw_X8_18 ar_I hf (by decide) (by decide) (by decide) (by decide) (Nat.le_of_ble_eq_true rfl) (Nat.le_of_ble_eq_true rfl) (Nat.le_of_ble_eq_true rfl) (Nat.le_of_ble_eq_true rfl) (Nat.le_of_ble_eq_true rfl) dX8_init_75 (fun H n75_14 h75_14 hH hf => ?_)
  refine W.widen (k := 44) (n := 274) (Nat.le_of_ble_eq_true rfl) (Nat.le_of_ble_eq_true rfl) ?_
  refine pg_pR C hin hH fl_X8_36 ff_8_7 rfl rfl hf dX8_init_79 (fun H locs h79_15 hH hf => ?_)
  refine lv_aload_n hx hb dX8_init_82 rfl (lv_at hl 0 rfl) ?_
  refine pg_Vv (As := []) C hH mi_X8_clear vl_X8_39 (q := (RX8, TX8, 8)) (ci := 8) rfl rfl hf (fun _ e1 => (oO_sp e1).1) (fun _ e1 => c_X8_clear e1) rfl rfl hl.1 (Nat.le_of_ble_eq_true rfl) ⟨Nat.le_of_ble_eq_true rfl, Nat.le_of_ble_eq_true rfl⟩ ⟨Nat.le_of_ble_eq_true rfl, Nat.le_of_ble_eq_true rfl⟩ dX8_init_83 (fun H locs h83 hH hf => ?_)
  exact pg_vret C hr hH hf dX8_init_86
set_option maxHeartbeats 4000000 in
set_option maxRecDepth 100000 in
theorem wX8_takeRows_b2 {r2 : PH → Nat → Nat → Int32 → Option (PH)} {h' : PH} (C : CT g RX8 cX8_takeRows 3 (Cond.code yX8_takeRows cX8_takeRows 3 (none) :: TB) p s m args meth c) (hr : meth.sig.returnType = none) (k2 : ∀ {h : PH} {a0 : Nat} {a1 : Nat} {x2 : Int32} {H : Heap} {locs : List Loc} {ls : Array Slot}, HS g s H locs h → r2 h a0 a1 x2 = some h' → lv_has ls 3 [(0, .ref (gB g + a0)), (1, .ref (gB g + a1)), (2, .int x2)] → W p l e (rmD 1 0 0) s m args below meth c H locs 0 0 (MQ below (QcV g h') args s 0 0 (aB g)) (F0 m 2 ls [])) {h : PH} {a0 : Nat} {a1 : Nat} {x2 : Int32} {H : Heap} {locs : List Loc} {ls : Array Slot} (hH : HS g s H locs h) (hf : mX8_takeRows_b2 r2 h a0 a1 x2 = some h') (hl : lv_has ls 3 [(0, .ref (gB g + a0)), (1, .ref (gB g + a1)), (2, .int x2)]) : W p l e (rmD 1 0 0) s m args below meth c H locs 0 0 (MQ below (QcV g h') args s 0 0 (aB g)) (F0 m 2 ls []) := by
  obtain ⟨⟨hx, hb, hml, hown, hts⟩, htb, hlk, hkk, hbs⟩ := id C
  unfold mX8_takeRows_b2 at hf
  refine lv_iload_n hx hb dX8_takeRows_2 rfl (lv_at hl 2 rfl) ?_
  refine lv_aload_n hx hb dX8_takeRows_3 rfl (lv_at hl 0 rfl) ?_
  refine pg_aN C hH (by decide) hf dX8_takeRows_4 (fun v4 hf => ?_)
  refine lv_icmp_ge (tgt := 42) hx hb dX8_takeRows_5 (by decide) (fun cn => ?_) (fun cn => ?_)
  · have hf := (if_pos cn).symm.trans hf
    exact pg_vret C hr hH hf dX8_takeRows_42
  · have hf := (if_neg cn).symm.trans hf
    refine lv_iload_n hx hb dX8_takeRows_8 rfl (lv_at hl 2 rfl) ?_
    refine lv_aload_n hx hb dX8_takeRows_9 rfl (lv_at hl 1 rfl) ?_
    refine pg_aN C hH (by decide) hf dX8_takeRows_10 (fun v10 hf => ?_)
    refine lv_icmp_ge (tgt := 42) hx hb dX8_takeRows_11 (by decide) (fun cn => ?_) (fun cn => ?_)
    · have hf := (if_pos cn).symm.trans hf
      exact pg_vret C hr hH hf dX8_takeRows_42
    · have hf := (if_neg cn).symm.trans hf
      refine lv_aload_n hx hb dX8_takeRows_14 rfl (lv_at hl 0 rfl) ?_
      refine lv_iload_n hx hb dX8_takeRows_15 rfl (lv_at hl 2 rfl) ?_
      refine pg_aR C hH (Or.inr rfl) hf dX8_takeRows_16 (fun v16 hf => ?_)
      refine lv_iconst (v := (0 : Int32)) hx hb dX8_takeRows_17 (by decide) ?_
      refine lv_aload_n hx hb dX8_takeRows_18 rfl (lv_at hl 1 rfl) ?_
      refine lv_iload_n hx hb dX8_takeRows_19 rfl (lv_at hl 2 rfl) ?_
      refine pg_aR C hH (Or.inr rfl) hf dX8_takeRows_20 (fun v20 hf => ?_)
      refine lv_iconst (v := (0 : Int32)) hx hb dX8_takeRows_21 (by decide) ?_
      refine lv_aload_n hx hb dX8_takeRows_22 rfl (lv_at hl 0 rfl) ?_
      refine lv_iload_n hx hb dX8_takeRows_23 rfl (lv_at hl 2 rfl) ?_
      refine pg_aR C hH (Or.inr rfl) hf dX8_takeRows_24 (fun v24 hf => ?_)
      refine pg_aN C hH (by decide) hf dX8_takeRows_25 (fun v25 hf => ?_)
      refine lv_aload_n hx hb dX8_takeRows_26 rfl (lv_at hl 1 rfl) ?_
      refine lv_iload_n hx hb dX8_takeRows_27 rfl (lv_at hl 2 rfl) ?_
      refine pg_aR C hH (Or.inr rfl) hf dX8_takeRows_28 (fun v28 hf => ?_)
      refine pg_aN C hH (by decide) hf dX8_takeRows_29 (fun v29 hf => ?_)
      refine pg_mmin C jm_X8_61 hl.1 (Nat.le_of_ble_eq_true rfl) (Nat.le_of_ble_eq_true rfl) ⟨Nat.zero_le _, Nat.zero_le _⟩ dX8_takeRows_30 ?_
      refine pg_cpI C hH ac_X8_51 hl.1 hf (Nat.le_of_ble_eq_true rfl) (Nat.le_of_ble_eq_true rfl) dX8_takeRows_33 (fun H locs h33 hH hf => ?_)
      refine lv_iinc (v := (x2 + 1)) (lv' := [(2, .int (x2 + 1)), (0, .ref (gB g + a0)), (1, .ref (gB g + a1))]) hx hb dX8_takeRows_36 hl (k := 2) rfl rfl (by decide) rfl (fun ls hl => ?_)
      refine lv_goto (tgt := 2) hx hb dX8_takeRows_39 (by decide) ?_
      exact k2 hH hf (lv_sub hl [1, 2, 0] rfl)
set_option maxHeartbeats 4000000 in
set_option maxRecDepth 100000 in
theorem wX8_takeRows_L2 {h' : PH} (C : CT g RX8 cX8_takeRows 3 (Cond.code yX8_takeRows cX8_takeRows 3 (none) :: TB) p s m args meth c) (hr : meth.sig.returnType = none) : ∀ (n : Nat) {h : PH} {a0 : Nat} {a1 : Nat} {x2 : Int32} {H : Heap} {locs : List Loc} {ls : Array Slot}, HS g s H locs h → mX8_takeRows_L2 n h a0 a1 x2 = some h' → lv_has ls 3 [(0, .ref (gB g + a0)), (1, .ref (gB g + a1)), (2, .int x2)] → W p l e (rmD 1 0 0) s m args below meth c H locs 0 0 (MQ below (QcV g h') args s 0 0 (aB g)) (F0 m 2 ls []) := by
  intro n
  induction n with
  | zero =>
    intro h a0 a1 x2 H locs ls hH hf hl
    exact absurd hf (by intro z; cases z)
  | succ n ih =>
    intro h a0 a1 x2 H locs ls hH hf hl
    have hf : mX8_takeRows_b2 (mX8_takeRows_L2 n) h a0 a1 x2 = some h' := hf
    exact wX8_takeRows_b2 C hr (fun a b c => ih a b c) hH hf hl
set_option maxHeartbeats 4000000 in
set_option maxRecDepth 100000 in
theorem c_X8_takeRows {l : Launch} {g : GD} {h : PH} {a0 : Nat} {a1 : Nat} {h' : PH} (hf : mX8_takeRows h a0 a1 = some h') : Met l yX8_takeRows (Cond.code yX8_takeRows cX8_takeRows 3 (none) :: TB) (rmD 1 0 0) (PcH g [.ref (gB g + a0), .ref (gB g + a1)] h) (QcV g h') 0 0 (aB g) := by
  refine Met.ofW (cc := cX8_takeRows) (maxL := 3) (ret := none) (by decide) rfl ?_
  intro p e s m args below meth c s₁ B hml hv
  obtain ⟨rfl, hH0, hkk0⟩ := hv
  have C : CT g RX8 cX8_takeRows 3 (Cond.code yX8_takeRows cX8_takeRows 3 (none) :: TB) p s m _ meth c := pg_ct (Tw := []) B hml hH0 hkk0
  have hr := B.returns
  have hH : HS g s s.heap [] h := ⟨hH0, va_S.rf⟩
  have hl := lv_entry ([.ref (gB g + a0), .ref (gB g + a1)]) (n := 3) (Nat.le_of_ble_eq_true rfl)
  rw [lg_entry_eq]
  generalize (lg_sl ([.ref (gB g + a0), .ref (gB g + a1)]) ++ List.replicate (3 - (lg_sl ([.ref (gB g + a0), .ref (gB g + a1)])).length) Slot.unset).toArray = ls at hl ⊢
  have hl : lv_has ls 3 [(0, .ref (gB g + a0)), (1, .ref (gB g + a1))] := hl
  show W p l e (rmD 1 0 0) _ _ _ _ _ _ _ _ _ _ _ _
  unfold mX8_takeRows at hf
  obtain ⟨⟨hx, hb, hml, hown, hts⟩, htb, hlk, hkk, hbs⟩ := id C
  refine lv_iconst (v := (0 : Int32)) hx hb dX8_takeRows_0 (by decide) ?_
  refine lv_istore_n (lv' := [(2, .int (0 : Int32)), (0, .ref (gB g + a0)), (1, .ref (gB g + a1))]) hx hb dX8_takeRows_1 rfl hl (by decide) rfl (fun ls hl => ?_)
  exact wX8_takeRows_L2 C hr FU hH hf (lv_sub hl [1, 2, 0] rfl)
set_option maxHeartbeats 4000000 in
set_option maxRecDepth 100000 in
theorem c_X8_take {l : Launch} {g : GD} {h : PH} {a0 : Nat} {a1 : Nat} {h' : PH} (hf : mX8_take h a0 a1 = some h') : Met l yX8_take (Cond.code yX8_take cX8_take 2 (none) :: TB) (rmD 2 0 0) (PcH g [.ref (gB g + a0), .ref (gB g + a1)] h) (QcV g h') 0 0 (aB g) := by
  refine Met.ofW (cc := cX8_take) (maxL := 2) (ret := none) (by decide) rfl ?_
  intro p e s m args below meth c s₁ B hml hv
  obtain ⟨rfl, hH0, hkk0⟩ := hv
  have C : CT g RX8 cX8_take 2 (Cond.code yX8_take cX8_take 2 (none) :: TB) p s m _ meth c := pg_ct (Tw := []) B hml hH0 hkk0
  have hr := B.returns
  have hH : HS g s s.heap [] h := ⟨hH0, va_S.rf⟩
  have hl := lv_entry ([.ref (gB g + a0), .ref (gB g + a1)]) (n := 2) (Nat.le_of_ble_eq_true rfl)
  rw [lg_entry_eq]
  generalize (lg_sl ([.ref (gB g + a0), .ref (gB g + a1)]) ++ List.replicate (2 - (lg_sl ([.ref (gB g + a0), .ref (gB g + a1)])).length) Slot.unset).toArray = ls at hl ⊢
  have hl : lv_has ls 2 [(0, .ref (gB g + a0)), (1, .ref (gB g + a1))] := hl
  show W p l e (rmD 2 0 0) _ _ _ _ _ _ _ _ _ _ _ _
  unfold mX8_take at hf
  obtain ⟨hO, hf⟩ := oO_sp hf
  obtain ⟨⟨hx, hb, hml, hown, hts⟩, htb, hlk, hkk, hbs⟩ := id C
  refine lv_aload_n hx hb dX8_take_0 rfl (lv_at hl 1 rfl) ?_
  refine pg_gR C hH fl_X8_9 hf dX8_take_1 (fun v1 hf => ?_)
  refine lv_iconst (v := (0 : Int32)) hx hb dX8_take_4 (by decide) ?_
  refine lv_aload_n hx hb dX8_take_5 rfl (lv_at hl 0 rfl) ?_
  refine pg_gR C hH fl_X8_9 hf dX8_take_6 (fun v6 hf => ?_)
  refine lv_iconst (v := (0 : Int32)) hx hb dX8_take_9 (by decide) ?_
  refine lv_bipush (v := (14 : Int32)) hx hb dX8_take_10 (by decide) ?_
  refine pg_cpI C hH ac_X8_51 hl.1 hf (Nat.le_of_ble_eq_true rfl) (Nat.le_of_ble_eq_true rfl) dX8_take_12 (fun H locs h12 hH hf => ?_)
  refine lv_aload_n hx hb dX8_take_15 rfl (lv_at hl 1 rfl) ?_
  refine pg_gR C hH fl_X8_15 hf dX8_take_16 (fun v16 hf => ?_)
  refine lv_iconst (v := (0 : Int32)) hx hb dX8_take_19 (by decide) ?_
  refine lv_aload_n hx hb dX8_take_20 rfl (lv_at hl 0 rfl) ?_
  refine pg_gR C hH fl_X8_15 hf dX8_take_21 (fun v21 hf => ?_)
  refine lv_iconst (v := (0 : Int32)) hx hb dX8_take_24 (by decide) ?_
  refine lv_bipush (v := (6 : Int32)) hx hb dX8_take_25 (by decide) ?_
  refine pg_cpI C hH ac_X8_51 hl.1 hf (Nat.le_of_ble_eq_true rfl) (Nat.le_of_ble_eq_true rfl) dX8_take_27 (fun H locs h27 hH hf => ?_)
  refine lv_aload_n hx hb dX8_take_30 rfl (lv_at hl 1 rfl) ?_
  refine pg_gR C hH fl_X8_29 hf dX8_take_31 (fun v31 hf => ?_)
  refine lv_iconst (v := (0 : Int32)) hx hb dX8_take_34 (by decide) ?_
  refine lv_aload_n hx hb dX8_take_35 rfl (lv_at hl 0 rfl) ?_
  refine pg_gR C hH fl_X8_29 hf dX8_take_36 (fun v36 hf => ?_)
  refine lv_iconst (v := (0 : Int32)) hx hb dX8_take_39 (by decide) ?_
  refine lv_bipush (v := (10 : Int32)) hx hb dX8_take_40 (by decide) ?_
  refine pg_cpL C hH ac_X8_51 hl.1 hf (Nat.le_of_ble_eq_true rfl) (Nat.le_of_ble_eq_true rfl) dX8_take_42 (fun H locs h42 hH hf => ?_)
  refine lv_aload_n hx hb dX8_take_45 rfl (lv_at hl 1 rfl) ?_
  refine pg_gR C hH fl_X8_20 hf dX8_take_46 (fun v46 hf => ?_)
  refine lv_aload_n hx hb dX8_take_49 rfl (lv_at hl 0 rfl) ?_
  refine pg_gR C hH fl_X8_20 hf dX8_take_50 (fun v50 hf => ?_)
  refine pg_Sv (As := [.ref (gB g + v46), .ref (gB g + v50)]) C hH mi_X8_takeRows sl_X8_57 hf (fun _ e1 => c_X8_takeRows e1) rfl rfl hl.1 (Nat.le_of_ble_eq_true rfl) ⟨Nat.le_of_ble_eq_true rfl, Nat.le_of_ble_eq_true rfl⟩ ⟨Nat.zero_le _, Nat.zero_le _⟩ dX8_take_53 (fun H locs h53 hH hf => ?_)
  refine lv_aload_n hx hb dX8_take_56 rfl (lv_at hl 1 rfl) ?_
  refine pg_gR C hH fl_X8_23 hf dX8_take_57 (fun v57 hf => ?_)
  refine lv_aload_n hx hb dX8_take_60 rfl (lv_at hl 0 rfl) ?_
  refine pg_gR C hH fl_X8_23 hf dX8_take_61 (fun v61 hf => ?_)
  refine pg_Sv (As := [.ref (gB g + v57), .ref (gB g + v61)]) C hH mi_X8_takeRows sl_X8_57 hf (fun _ e1 => c_X8_takeRows e1) rfl rfl hl.1 (Nat.le_of_ble_eq_true rfl) ⟨Nat.le_of_ble_eq_true rfl, Nat.le_of_ble_eq_true rfl⟩ ⟨Nat.zero_le _, Nat.zero_le _⟩ dX8_take_64 (fun H locs h64 hH hf => ?_)
  refine lv_aload_n hx hb dX8_take_67 rfl (lv_at hl 1 rfl) ?_
  refine pg_gR C hH fl_X8_26 hf dX8_take_68 (fun v68 hf => ?_)
  refine lv_aload_n hx hb dX8_take_71 rfl (lv_at hl 0 rfl) ?_
  refine pg_gR C hH fl_X8_26 hf dX8_take_72 (fun v72 hf => ?_)
  refine pg_Sv (As := [.ref (gB g + v68), .ref (gB g + v72)]) C hH mi_X8_takeRows sl_X8_57 hf (fun _ e1 => c_X8_takeRows e1) rfl rfl hl.1 (Nat.le_of_ble_eq_true rfl) ⟨Nat.le_of_ble_eq_true rfl, Nat.le_of_ble_eq_true rfl⟩ ⟨Nat.zero_le _, Nat.zero_le _⟩ dX8_take_75 (fun H locs h75 hH hf => ?_)
  refine lv_aload_n hx hb dX8_take_78 rfl (lv_at hl 1 rfl) ?_
  refine pg_gR C hH fl_X8_33 hf dX8_take_79 (fun v79 hf => ?_)
  refine lv_aload_n hx hb dX8_take_82 rfl (lv_at hl 0 rfl) ?_
  refine pg_gR C hH fl_X8_33 hf dX8_take_83 (fun v83 hf => ?_)
  refine pg_Sv (As := [.ref (gB g + v79), .ref (gB g + v83)]) C hH mi_X8_takeRows sl_X8_57 hf (fun _ e1 => c_X8_takeRows e1) rfl rfl hl.1 (Nat.le_of_ble_eq_true rfl) ⟨Nat.le_of_ble_eq_true rfl, Nat.le_of_ble_eq_true rfl⟩ ⟨Nat.zero_le _, Nat.zero_le _⟩ dX8_take_86 (fun H locs h86 hH hf => ?_)
  refine lv_aload_n hx hb dX8_take_89 rfl (lv_at hl 1 rfl) ?_
  refine pg_gR C hH fl_X8_36 hf dX8_take_90 (fun v90 hf => ?_)
  refine lv_aload_n hx hb dX8_take_93 rfl (lv_at hl 0 rfl) ?_
  refine pg_gR C hH fl_X8_36 hf dX8_take_94 (fun v94 hf => ?_)
  refine pg_Sv (As := [.ref (gB g + v90), .ref (gB g + v94)]) C hH mi_X8_takeRows sl_X8_57 hf (fun _ e1 => c_X8_takeRows e1) rfl rfl hl.1 (Nat.le_of_ble_eq_true rfl) ⟨Nat.le_of_ble_eq_true rfl, Nat.le_of_ble_eq_true rfl⟩ ⟨Nat.zero_le _, Nat.zero_le _⟩ dX8_take_97 (fun H locs h97 hH hf => ?_)
  exact pg_vret C hr hH hf dX8_take_100
set_option maxHeartbeats 4000000 in
set_option maxRecDepth 100000 in
theorem c_X8_has {l : Launch} {g : GD} {h : PH} {a0 : Nat} {x1 : Int32} {x2 : Int32} {r : Int32} {h' : PH} (hf : mX8_has h a0 x1 x2 = some (r, h')) : Met l yX8_has (Cond.code yX8_has cX8_has 3 (some .boolean) :: TB) (rmD 0 0 0) (PcH g [.ref (gB g + a0), .int x1, .int x2] h) (QcI g r h') 0 0 (aB g) := by
  refine Met.ofW (cc := cX8_has) (maxL := 3) (ret := some .boolean) (by decide) rfl ?_
  intro p e s m args below meth c s₁ B hml hv
  obtain ⟨rfl, hH0, hkk0⟩ := hv
  have C : CT g RX8 cX8_has 3 (Cond.code yX8_has cX8_has 3 (some .boolean) :: TB) p s m _ meth c := pg_ct (Tw := []) B hml hH0 hkk0
  have hr := B.returns
  have hH : HS g s s.heap [] h := ⟨hH0, va_S.rf⟩
  have hl := lv_entry ([.ref (gB g + a0), .int x1, .int x2]) (n := 3) (Nat.le_of_ble_eq_true rfl)
  rw [lg_entry_eq]
  generalize (lg_sl ([.ref (gB g + a0), .int x1, .int x2]) ++ List.replicate (3 - (lg_sl ([.ref (gB g + a0), .int x1, .int x2])).length) Slot.unset).toArray = ls at hl ⊢
  have hl : lv_has ls 3 [(0, .ref (gB g + a0)), (1, .int x1), (2, .int x2)] := hl
  show W p l e (rmD 0 0 0) _ _ _ _ _ _ _ _ _ _ _ _
  unfold mX8_has at hf
  obtain ⟨hO, hf⟩ := oO_sp hf
  obtain ⟨⟨hx, hb, hml, hown, hts⟩, htb, hlk, hkk, hbs⟩ := id C
  refine lv_iload_n hx hb dX8_has_0 rfl (lv_at hl 2 rfl) ?_
  refine lv_if_lt (tgt := 18) hx hb dX8_has_1 (by decide) (fun cn => ?_) (fun cn => ?_)
  · have hf := (if_pos cn).symm.trans hf
    refine lv_iconst (v := (0 : Int32)) hx hb dX8_has_18 (by decide) ?_
    exact pg_zret C hr hH hf dX8_has_19
  · have hf := (if_neg cn).symm.trans hf
    refine lv_iload_n hx hb dX8_has_4 rfl (lv_at hl 2 rfl) ?_
    refine lv_aload_n hx hb dX8_has_5 rfl (lv_at hl 0 rfl) ?_
    refine pg_gR C hH fl_X8_9 hf dX8_has_6 (fun v6 hf => ?_)
    refine lv_iload_n hx hb dX8_has_9 rfl (lv_at hl 1 rfl) ?_
    refine pg_aI C hH hf dX8_has_10 (fun v10 hf => ?_)
    refine lv_icmp_ge (tgt := 18) hx hb dX8_has_11 (by decide) (fun cn => ?_) (fun cn => ?_)
    · have hf := (if_pos cn).symm.trans hf
      refine lv_iconst (v := (0 : Int32)) hx hb dX8_has_18 (by decide) ?_
      exact pg_zret C hr hH hf dX8_has_19
    · have hf := (if_neg cn).symm.trans hf
      refine lv_iconst (v := (1 : Int32)) hx hb dX8_has_14 (by decide) ?_
      refine lv_goto (tgt := 19) hx hb dX8_has_15 (by decide) ?_
      exact pg_zret C hr hH hf dX8_has_19
set_option maxHeartbeats 4000000 in
set_option maxRecDepth 100000 in
theorem c_X9_init {l : Launch} {g : GD} {h : PH} {a0 : Nat} {h' : PH} (hf : mX9_init h a0 = some h') : Met l yX9_init (Cond.code yX9_init cX9_init 2 (none) :: TB) (rmD 7 223 2864) (PcH g [.ref (gB g + a0)] h) (QcV g h') 223 2864 (aB g) := by
  refine Met.ofW (cc := cX9_init) (maxL := 2) (ret := none) (by decide) rfl ?_
  intro p e s m args below meth c s₁ B hml hv
  obtain ⟨rfl, hH0, hkk0⟩ := hv
  have C : CT g RX9 cX9_init 2 (Cond.code yX9_init cX9_init 2 (none) :: TB) p s m _ meth c := pg_ct (Tw := []) B hml hH0 hkk0
  have hr := B.returns
  have hH : HS g s s.heap [] h := ⟨hH0, va_S.rf⟩
  have hl := lv_entry ([.ref (gB g + a0)]) (n := 2) (Nat.le_of_ble_eq_true rfl)
  rw [lg_entry_eq]
  generalize (lg_sl ([.ref (gB g + a0)]) ++ List.replicate (2 - (lg_sl ([.ref (gB g + a0)])).length) Slot.unset).toArray = ls at hl ⊢
  have hl : lv_has ls 2 [(0, .ref (gB g + a0))] := hl
  show W p l e (rmD 7 223 2864) _ _ _ _ _ _ _ _ _ _ _ _
  unfold mX9_init at hf
  obtain ⟨hO, hf⟩ := oO_sp hf
  have hin : meth.name = "<init>" := (name_of_methodNamed B.named B.method).1
  obtain ⟨⟨hx, hb, hml, hown, hts⟩, htb, hlk, hkk, hbs⟩ := id C
  refine lv_aload_n hx hb dX9_init_0 rfl (lv_at hl 0 rfl) ?_
  refine pg_obj C oi_X9_3 hl.1 (Nat.le_of_ble_eq_true rfl) (Nat.le_of_ble_eq_true rfl) dX9_init_1 ?_
  refine lv_aload_n hx hb dX9_init_4 rfl (lv_at hl 0 rfl) ?_
  refine pg_new C hH nc_X9_9 hf (Nat.le_of_ble_eq_true rfl) (Nat.le_of_ble_eq_true rfl) dX9_init_5 (fun H n5_0 h5_0 hH hf => ?_)
  refine W.widen (k := 1) (n := 2) (Nat.le_of_ble_eq_true rfl) (Nat.le_of_ble_eq_true rfl) ?_
  refine lv_dup hx hb dX9_init_8 rfl ?_
  refine pg_INv (As := []) C hH mi_X6_init (List.mem_of_getElem? (i := 0) rfl) im_X6_init rfl hf (fun _ e1 => c_X6_init e1) rfl rfl hl.1 (Nat.le_of_ble_eq_true rfl) ⟨Nat.le_of_ble_eq_true rfl, Nat.le_of_ble_eq_true rfl⟩ ⟨Nat.le_of_ble_eq_true rfl, Nat.le_of_ble_eq_true rfl⟩ dX9_init_9 (fun H locs h9_1 hH hf => ?_)
  refine W.widen (k := 2) (n := 902) (Nat.le_of_ble_eq_true rfl) (Nat.le_of_ble_eq_true rfl) ?_
  refine pg_pR C hin hH fl_X9_12 ff_9_0 rfl rfl hf dX9_init_12 (fun H locs h12_2 hH hf => ?_)
  refine lv_aload_n hx hb dX9_init_15 rfl (lv_at hl 0 rfl) ?_
  refine pg_new C hH nc_X9_16 hf (Nat.le_of_ble_eq_true rfl) (Nat.le_of_ble_eq_true rfl) dX9_init_16 (fun H n16_3 h16_3 hH hf => ?_)
  refine W.widen (k := 3) (n := 910) (Nat.le_of_ble_eq_true rfl) (Nat.le_of_ble_eq_true rfl) ?_
  refine lv_dup hx hb dX9_init_19 rfl ?_
  refine pg_Iv (As := []) C hH mi_X8_init il_X9_18 rfl hf (fun _ e1 => c_X8_init e1) rfl rfl hl.1 (Nat.le_of_ble_eq_true rfl) ⟨Nat.le_of_ble_eq_true rfl, Nat.le_of_ble_eq_true rfl⟩ ⟨Nat.le_of_ble_eq_true rfl, Nat.le_of_ble_eq_true rfl⟩ dX9_init_20 (fun H locs h20_4 hH hf => ?_)
  refine W.widen (k := 47) (n := 1184) (Nat.le_of_ble_eq_true rfl) (Nat.le_of_ble_eq_true rfl) ?_
  refine pg_pR C hin hH fl_X9_19 ff_9_1 rfl rfl hf dX9_init_23 (fun H locs h23_5 hH hf => ?_)
  refine lv_aload_n hx hb dX9_init_26 rfl (lv_at hl 0 rfl) ?_
  refine pg_new C hH nc_X9_16 hf (Nat.le_of_ble_eq_true rfl) (Nat.le_of_ble_eq_true rfl) dX9_init_27 (fun H n27_6 h27_6 hH hf => ?_)
  refine W.widen (k := 48) (n := 1192) (Nat.le_of_ble_eq_true rfl) (Nat.le_of_ble_eq_true rfl) ?_
  refine lv_dup hx hb dX9_init_30 rfl ?_
  refine pg_Iv (As := []) C hH mi_X8_init il_X9_18 rfl hf (fun _ e1 => c_X8_init e1) rfl rfl hl.1 (Nat.le_of_ble_eq_true rfl) ⟨Nat.le_of_ble_eq_true rfl, Nat.le_of_ble_eq_true rfl⟩ ⟨Nat.le_of_ble_eq_true rfl, Nat.le_of_ble_eq_true rfl⟩ dX9_init_31 (fun H locs h31_7 hH hf => ?_)
  refine W.widen (k := 92) (n := 1466) (Nat.le_of_ble_eq_true rfl) (Nat.le_of_ble_eq_true rfl) ?_
  refine pg_pR C hin hH fl_X9_23 ff_9_2 rfl rfl hf dX9_init_34 (fun H locs h34_8 hH hf => ?_)
  refine lv_aload_n hx hb dX9_init_37 rfl (lv_at hl 0 rfl) ?_
  refine lv_iconst (v := (2 : Int32)) hx hb dX9_init_38 (by decide) ?_
  refine pg_newW (N' := 2) C hH cw_X9_16 hkk.2.2.2.1.1 hf (by decide) (by decide) (Nat.le_of_ble_eq_true rfl) (Nat.le_of_ble_eq_true rfl) (Nat.le_of_ble_eq_true rfl) dX9_init_39 (fun H n39_9 h39_9 hH hf => ?_)
  refine W.widen (k := 93) (n := 1468) (Nat.le_of_ble_eq_true rfl) (Nat.le_of_ble_eq_true rfl) ?_
  refine pg_pR C hin hH fl_X9_26 ff_9_3 rfl rfl hf dX9_init_42 (fun H locs h42_10 hH hf => ?_)
  refine lv_aload_n hx hb dX9_init_45 rfl (lv_at hl 0 rfl) ?_
  refine pg_new C hH nc_X9_30 hf (Nat.le_of_ble_eq_true rfl) (Nat.le_of_ble_eq_true rfl) dX9_init_46 (fun H n46_11 h46_11 hH hf => ?_)
  refine W.widen (k := 94) (n := 1476) (Nat.le_of_ble_eq_true rfl) (Nat.le_of_ble_eq_true rfl) ?_
  refine lv_dup hx hb dX9_init_49 rfl ?_
  refine lv_aload_n hx hb dX9_init_50 rfl (lv_at hl 0 rfl) ?_
  refine pg_gR C hH fl_X9_12 hf dX9_init_51 (fun v51 hf => ?_)
  refine lv_aload_n hx hb dX9_init_54 rfl (lv_at hl 0 rfl) ?_
  refine pg_gR C hH fl_X9_23 hf dX9_init_55 (fun v55 hf => ?_)
  refine pg_Iv (As := [.ref (gB g + v51), .ref (gB g + v55)]) C hH mi_X4_init il_X9_32 rfl hf (fun _ e1 => c_X4_init e1) rfl rfl hl.1 (Nat.le_of_ble_eq_true rfl) ⟨Nat.le_of_ble_eq_true rfl, Nat.le_of_ble_eq_true rfl⟩ ⟨Nat.le_of_ble_eq_true rfl, Nat.le_of_ble_eq_true rfl⟩ dX9_init_58 (fun H locs h58_12 hH hf => ?_)
  refine W.widen (k := 99) (n := 1592) (Nat.le_of_ble_eq_true rfl) (Nat.le_of_ble_eq_true rfl) ?_
  refine pg_pR C hin hH fl_X9_35 ff_9_4 rfl rfl hf dX9_init_61 (fun H locs h61_13 hH hf => ?_)
  refine lv_aload_n hx hb dX9_init_64 rfl (lv_at hl 0 rfl) ?_
  refine pg_new C hH nc_X9_39 hf (Nat.le_of_ble_eq_true rfl) (Nat.le_of_ble_eq_true rfl) dX9_init_65 (fun H n65_14 h65_14 hH hf => ?_)
  refine W.widen (k := 100) (n := 1600) (Nat.le_of_ble_eq_true rfl) (Nat.le_of_ble_eq_true rfl) ?_
  refine lv_dup hx hb dX9_init_68 rfl ?_
  refine lv_aload_n hx hb dX9_init_69 rfl (lv_at hl 0 rfl) ?_
  refine pg_gR C hH fl_X9_19 hf dX9_init_70 (fun v70 hf => ?_)
  refine pg_Iv (As := [.ref (gB g + v70)]) C hH mi_X2_init il_X9_41 rfl hf (fun _ e1 => c_X2_init e1) rfl rfl hl.1 (Nat.le_of_ble_eq_true rfl) ⟨Nat.le_of_ble_eq_true rfl, Nat.le_of_ble_eq_true rfl⟩ ⟨Nat.le_of_ble_eq_true rfl, Nat.le_of_ble_eq_true rfl⟩ dX9_init_73 (fun H locs h73_15 hH hf => ?_)
  refine W.widen (k := 110) (n := 1690) (Nat.le_of_ble_eq_true rfl) (Nat.le_of_ble_eq_true rfl) ?_
  refine pg_pR C hin hH fl_X9_44 ff_9_5 rfl rfl hf dX9_init_76 (fun H locs h76_16 hH hf => ?_)
  refine lv_aload_n hx hb dX9_init_79 rfl (lv_at hl 0 rfl) ?_
  refine pg_new C hH nc_X9_48 hf (Nat.le_of_ble_eq_true rfl) (Nat.le_of_ble_eq_true rfl) dX9_init_80 (fun H n80_17 h80_17 hH hf => ?_)
  refine W.widen (k := 111) (n := 1701) (Nat.le_of_ble_eq_true rfl) (Nat.le_of_ble_eq_true rfl) ?_
  refine lv_dup hx hb dX9_init_83 rfl ?_
  refine lv_aload_n hx hb dX9_init_84 rfl (lv_at hl 0 rfl) ?_
  refine pg_gR C hH fl_X9_19 hf dX9_init_85 (fun v85 hf => ?_)
  refine lv_aload_n hx hb dX9_init_88 rfl (lv_at hl 0 rfl) ?_
  refine pg_gR C hH fl_X9_44 hf dX9_init_89 (fun v89 hf => ?_)
  refine pg_Iv (As := [.ref (gB g + v85), .ref (gB g + v89)]) C hH mi_X1_init il_X9_50 rfl hf (fun _ e1 => c_X1_init e1) rfl rfl hl.1 (Nat.le_of_ble_eq_true rfl) ⟨Nat.le_of_ble_eq_true rfl, Nat.le_of_ble_eq_true rfl⟩ ⟨Nat.le_of_ble_eq_true rfl, Nat.le_of_ble_eq_true rfl⟩ dX9_init_92 (fun H locs h92_18 hH hf => ?_)
  refine W.widen (k := 114) (n := 1728) (Nat.le_of_ble_eq_true rfl) (Nat.le_of_ble_eq_true rfl) ?_
  refine pg_pR C hin hH fl_X9_53 ff_9_6 rfl rfl hf dX9_init_95 (fun H locs h95_19 hH hf => ?_)
  refine lv_aload_n hx hb dX9_init_98 rfl (lv_at hl 0 rfl) ?_
  refine pg_new C hH nc_X9_57 hf (Nat.le_of_ble_eq_true rfl) (Nat.le_of_ble_eq_true rfl) dX9_init_99 (fun H n99_20 h99_20 hH hf => ?_)
  refine W.widen (k := 115) (n := 1733) (Nat.le_of_ble_eq_true rfl) (Nat.le_of_ble_eq_true rfl) ?_
  refine lv_dup hx hb dX9_init_102 rfl ?_
  refine lv_aload_n hx hb dX9_init_103 rfl (lv_at hl 0 rfl) ?_
  refine pg_gR C hH fl_X9_19 hf dX9_init_104 (fun v104 hf => ?_)
  refine lv_aload_n hx hb dX9_init_107 rfl (lv_at hl 0 rfl) ?_
  refine pg_gR C hH fl_X9_44 hf dX9_init_108 (fun v108 hf => ?_)
  refine pg_Iv (As := [.ref (gB g + v104), .ref (gB g + v108)]) C hH mi_X5_init il_X9_59 rfl hf (fun _ e1 => c_X5_init e1) rfl rfl hl.1 (Nat.le_of_ble_eq_true rfl) ⟨Nat.le_of_ble_eq_true rfl, Nat.le_of_ble_eq_true rfl⟩ ⟨Nat.le_of_ble_eq_true rfl, Nat.le_of_ble_eq_true rfl⟩ dX9_init_111 (fun H locs h111_21 hH hf => ?_)
  refine W.widen (k := 117) (n := 1755) (Nat.le_of_ble_eq_true rfl) (Nat.le_of_ble_eq_true rfl) ?_
  refine pg_pR C hin hH fl_X9_60 ff_9_7 rfl rfl hf dX9_init_114 (fun H locs h114_22 hH hf => ?_)
  refine lv_aload_n hx hb dX9_init_117 rfl (lv_at hl 0 rfl) ?_
  refine pg_new C hH nc_X9_64 hf (Nat.le_of_ble_eq_true rfl) (Nat.le_of_ble_eq_true rfl) dX9_init_118 (fun H n118_23 h118_23 hH hf => ?_)
  refine W.widen (k := 118) (n := 1758) (Nat.le_of_ble_eq_true rfl) (Nat.le_of_ble_eq_true rfl) ?_
  refine lv_dup hx hb dX9_init_121 rfl ?_
  refine pg_INv (As := []) C hH mi_X0_init (List.mem_of_getElem? (i := 1) rfl) im_X0_init rfl hf (fun _ e1 => c_X0_init e1) rfl rfl hl.1 (Nat.le_of_ble_eq_true rfl) ⟨Nat.le_of_ble_eq_true rfl, Nat.le_of_ble_eq_true rfl⟩ ⟨Nat.le_of_ble_eq_true rfl, Nat.le_of_ble_eq_true rfl⟩ dX9_init_122 (fun H locs h122_24 hH hf => ?_)
  refine W.widen (k := 131) (n := 1818) (Nat.le_of_ble_eq_true rfl) (Nat.le_of_ble_eq_true rfl) ?_
  refine pg_pR C hin hH fl_X9_67 ff_9_8 rfl rfl hf dX9_init_125 (fun H locs h125_25 hH hf => ?_)
  refine lv_aload_n hx hb dX9_init_128 rfl (lv_at hl 0 rfl) ?_
  refine pg_new C hH nc_X9_71 hf (Nat.le_of_ble_eq_true rfl) (Nat.le_of_ble_eq_true rfl) dX9_init_129 (fun H n129_26 h129_26 hH hf => ?_)
  refine W.widen (k := 132) (n := 1820) (Nat.le_of_ble_eq_true rfl) (Nat.le_of_ble_eq_true rfl) ?_
  refine lv_dup hx hb dX9_init_132 rfl ?_
  refine pg_INv (As := []) C hH mi_X3_init (List.mem_of_getElem? (i := 2) rfl) im_X3_init rfl hf (fun _ e1 => c_X3_init e1) rfl rfl hl.1 (Nat.le_of_ble_eq_true rfl) ⟨Nat.le_of_ble_eq_true rfl, Nat.le_of_ble_eq_true rfl⟩ ⟨Nat.le_of_ble_eq_true rfl, Nat.le_of_ble_eq_true rfl⟩ dX9_init_133 (fun H locs h133_27 hH hf => ?_)
  refine W.widen (k := 133) (n := 2300) (Nat.le_of_ble_eq_true rfl) (Nat.le_of_ble_eq_true rfl) ?_
  refine pg_pR C hin hH fl_X9_74 ff_9_9 rfl rfl hf dX9_init_136 (fun H locs h136_28 hH hf => ?_)
  refine lv_iconst (v := (0 : Int32)) hx hb dX9_init_139 (by decide) ?_
  refine lv_istore_n (lv' := [(1, .int (0 : Int32)), (0, .ref (gB g + a0))]) hx hb dX9_init_140 rfl hl (by decide) rfl (fun ls hl => ?_)
  refine lv_iload_n hx hb dX9_init_141 rfl (lv_at hl 0 rfl) ?_
  refine lv_iconst (v := (2 : Int32)) hx hb dX9_init_142 (by decide) ?_
  refine lv_icmp_ge (tgt := 165) hx hb dX9_init_143 (by decide) (fun cn => absurd cn (by decide)) (fun cn => ?_)
  refine lv_aload_n hx hb dX9_init_146 rfl (lv_at hl 1 rfl) ?_
  refine pg_gR C hH fl_X9_26 hf dX9_init_147 (fun v147 hf => ?_)
  refine lv_iload_n hx hb dX9_init_150 rfl (lv_at hl 0 rfl) ?_
  refine pg_new C hH nc_X9_16 hf (Nat.le_of_ble_eq_true rfl) (Nat.le_of_ble_eq_true rfl) dX9_init_151 (fun H n151_29 h151_29 hH hf => ?_)
  refine W.widen (k := 134) (n := 2308) (Nat.le_of_ble_eq_true rfl) (Nat.le_of_ble_eq_true rfl) ?_
  refine lv_dup hx hb dX9_init_154 rfl ?_
  refine pg_Iv (As := []) C hH mi_X8_init il_X9_18 rfl hf (fun _ e1 => c_X8_init e1) rfl rfl hl.1 (Nat.le_of_ble_eq_true rfl) ⟨Nat.le_of_ble_eq_true rfl, Nat.le_of_ble_eq_true rfl⟩ ⟨Nat.le_of_ble_eq_true rfl, Nat.le_of_ble_eq_true rfl⟩ dX9_init_155 (fun H locs h155_30 hH hf => ?_)
  refine W.widen (k := 178) (n := 2582) (Nat.le_of_ble_eq_true rfl) (Nat.le_of_ble_eq_true rfl) ?_
  refine pg_sR C hH hf dX9_init_158 (fun H locs h158_31 hH hf => ?_)
  refine lv_iinc (v := (1 : Int32)) (lv' := [(1, .int (1 : Int32)), (0, .ref (gB g + a0))]) hx hb dX9_init_159 hl (k := 0) rfl rfl (by decide) rfl (fun ls hl => ?_)
  refine lv_goto (tgt := 141) hx hb dX9_init_162 (by decide) ?_
  refine lv_iload_n hx hb dX9_init_141 rfl (lv_at hl 0 rfl) ?_
  refine lv_iconst (v := (2 : Int32)) hx hb dX9_init_142 (by decide) ?_
  refine lv_icmp_ge (tgt := 165) hx hb dX9_init_143 (by decide) (fun cn => absurd cn (by decide)) (fun cn => ?_)
  refine lv_aload_n hx hb dX9_init_146 rfl (lv_at hl 1 rfl) ?_
  refine pg_gR C hH fl_X9_26 hf dX9_init_147 (fun v147 hf => ?_)
  refine lv_iload_n hx hb dX9_init_150 rfl (lv_at hl 0 rfl) ?_
  refine pg_new C hH nc_X9_16 hf (Nat.le_of_ble_eq_true rfl) (Nat.le_of_ble_eq_true rfl) dX9_init_151 (fun H n151_32 h151_32 hH hf => ?_)
  refine W.widen (k := 179) (n := 2590) (Nat.le_of_ble_eq_true rfl) (Nat.le_of_ble_eq_true rfl) ?_
  refine lv_dup hx hb dX9_init_154 rfl ?_
  refine pg_Iv (As := []) C hH mi_X8_init il_X9_18 rfl hf (fun _ e1 => c_X8_init e1) rfl rfl hl.1 (Nat.le_of_ble_eq_true rfl) ⟨Nat.le_of_ble_eq_true rfl, Nat.le_of_ble_eq_true rfl⟩ ⟨Nat.le_of_ble_eq_true rfl, Nat.le_of_ble_eq_true rfl⟩ dX9_init_155 (fun H locs h155_33 hH hf => ?_)
  refine W.widen (k := 223) (n := 2864) (Nat.le_of_ble_eq_true rfl) (Nat.le_of_ble_eq_true rfl) ?_
  refine pg_sR C hH hf dX9_init_158 (fun H locs h158_34 hH hf => ?_)
  refine lv_iinc (v := (2 : Int32)) (lv' := [(1, .int (2 : Int32)), (0, .ref (gB g + a0))]) hx hb dX9_init_159 hl (k := 0) rfl rfl (by decide) rfl (fun ls hl => ?_)
  refine lv_goto (tgt := 141) hx hb dX9_init_162 (by decide) ?_
  refine lv_iload_n hx hb dX9_init_141 rfl (lv_at hl 0 rfl) ?_
  refine lv_iconst (v := (2 : Int32)) hx hb dX9_init_142 (by decide) ?_
  refine lv_icmp_ge (tgt := 165) hx hb dX9_init_143 (by decide) (fun cn => ?_) (fun cn => absurd cn (by decide))
  exact pg_vret C hr hH hf dX9_init_165
set_option maxHeartbeats 4000000 in
set_option maxRecDepth 100000 in
theorem c_X9_feed {l : Launch} {g : GD} {h : PH} {a0 : Nat} {x1 : Int32} {x2 : Int32} {x3 : Int32} {x4 : Int32} {x5 : Int32} {r : Int32} {h' : PH} (hf : mX9_feed h a0 x1 x2 x3 x4 x5 = some (r, h')) : Met l yX9_feed (Cond.code yX9_feed cX9_feed 6 (some .int) :: TB) (rmD 1 0 0) (PcH g [.ref (gB g + a0), .int x1, .int x2, .int x3, .int x4, .int x5] h) (QcI g r h') 0 0 (aB g) := by
  refine Met.ofW (cc := cX9_feed) (maxL := 6) (ret := some .int) (by decide) rfl ?_
  intro p e s m args below meth c s₁ B hml hv
  obtain ⟨rfl, hH0, hkk0⟩ := hv
  have C : CT g RX9 cX9_feed 6 (Cond.code yX9_feed cX9_feed 6 (some .int) :: TB) p s m _ meth c := pg_ct (Tw := []) B hml hH0 hkk0
  have hr := B.returns
  have hH : HS g s s.heap [] h := ⟨hH0, va_S.rf⟩
  have hl := lv_entry ([.ref (gB g + a0), .int x1, .int x2, .int x3, .int x4, .int x5]) (n := 6) (Nat.le_of_ble_eq_true rfl)
  rw [lg_entry_eq]
  generalize (lg_sl ([.ref (gB g + a0), .int x1, .int x2, .int x3, .int x4, .int x5]) ++ List.replicate (6 - (lg_sl ([.ref (gB g + a0), .int x1, .int x2, .int x3, .int x4, .int x5])).length) Slot.unset).toArray = ls at hl ⊢
  have hl : lv_has ls 6 [(0, .ref (gB g + a0)), (1, .int x1), (2, .int x2), (3, .int x3), (4, .int x4), (5, .int x5)] := hl
  show W p l e (rmD 1 0 0) _ _ _ _ _ _ _ _ _ _ _ _
  unfold mX9_feed at hf
  obtain ⟨hO, hf⟩ := oO_sp hf
  obtain ⟨⟨hx, hb, hml, hown, hts⟩, htb, hlk, hkk, hbs⟩ := id C
  refine lv_aload_n hx hb dX9_feed_0 rfl (lv_at hl 0 rfl) ?_
  refine pg_gR C hH fl_X9_12 hf dX9_feed_1 (fun v1 hf => ?_)
  refine pg_gI C hH fl_X9_78 hf dX9_feed_4 (fun v4 hf => ?_)
  refine lv_bipush (v := (20 : Int32)) hx hb dX9_feed_7 (by decide) ?_
  refine lv_iadd hx hb dX9_feed_9 ?_
  refine lv_sipush (v := (900 : Int32)) hx hb dX9_feed_10 (by decide) ?_
  refine lv_icmp_le (tgt := 18) hx hb dX9_feed_13 (by decide) (fun cn => ?_) (fun cn => ?_)
  · have hf := (if_pos cn).symm.trans hf
    refine lv_aload_n hx hb dX9_feed_18 rfl (lv_at hl 0 rfl) ?_
    refine pg_gR C hH fl_X9_12 hf dX9_feed_19 (fun v19 hf => ?_)
    refine lv_iload_n hx hb dX9_feed_22 rfl (lv_at hl 1 rfl) ?_
    refine pg_Vv (As := [.int x1]) C hH mi_X6_add vl_X9_82 (q := (RX6, TX6, 2)) (ci := 6) rfl rfl hf (fun _ e1 => (oO_sp e1).1) (fun _ e1 => c_X6_add e1) rfl rfl hl.1 (Nat.le_of_ble_eq_true rfl) ⟨Nat.le_of_ble_eq_true rfl, Nat.le_of_ble_eq_true rfl⟩ ⟨Nat.zero_le _, Nat.zero_le _⟩ dX9_feed_23 (fun H locs h23 hH hf => ?_)
    refine lv_aload_n hx hb dX9_feed_26 rfl (lv_at hl 0 rfl) ?_
    refine pg_gR C hH fl_X9_12 hf dX9_feed_27 (fun v27 hf => ?_)
    refine lv_iload_n hx hb dX9_feed_30 rfl (lv_at hl 2 rfl) ?_
    refine pg_Vv (As := [.int x2]) C hH mi_X6_add vl_X9_82 (q := (RX6, TX6, 2)) (ci := 6) rfl rfl hf (fun _ e1 => (oO_sp e1).1) (fun _ e1 => c_X6_add e1) rfl rfl hl.1 (Nat.le_of_ble_eq_true rfl) ⟨Nat.le_of_ble_eq_true rfl, Nat.le_of_ble_eq_true rfl⟩ ⟨Nat.zero_le _, Nat.zero_le _⟩ dX9_feed_31 (fun H locs h31 hH hf => ?_)
    refine lv_aload_n hx hb dX9_feed_34 rfl (lv_at hl 0 rfl) ?_
    refine pg_gR C hH fl_X9_12 hf dX9_feed_35 (fun v35 hf => ?_)
    refine lv_iload_n hx hb dX9_feed_38 rfl (lv_at hl 3 rfl) ?_
    refine pg_Vv (As := [.int x3]) C hH mi_X6_add vl_X9_82 (q := (RX6, TX6, 2)) (ci := 6) rfl rfl hf (fun _ e1 => (oO_sp e1).1) (fun _ e1 => c_X6_add e1) rfl rfl hl.1 (Nat.le_of_ble_eq_true rfl) ⟨Nat.le_of_ble_eq_true rfl, Nat.le_of_ble_eq_true rfl⟩ ⟨Nat.zero_le _, Nat.zero_le _⟩ dX9_feed_39 (fun H locs h39 hH hf => ?_)
    refine lv_aload_n hx hb dX9_feed_42 rfl (lv_at hl 0 rfl) ?_
    refine pg_gR C hH fl_X9_12 hf dX9_feed_43 (fun v43 hf => ?_)
    refine lv_iload hx hb dX9_feed_46 (lv_at hl 4 rfl) ?_
    refine pg_Vv (As := [.int x4]) C hH mi_X6_add vl_X9_82 (q := (RX6, TX6, 2)) (ci := 6) rfl rfl hf (fun _ e1 => (oO_sp e1).1) (fun _ e1 => c_X6_add e1) rfl rfl hl.1 (Nat.le_of_ble_eq_true rfl) ⟨Nat.le_of_ble_eq_true rfl, Nat.le_of_ble_eq_true rfl⟩ ⟨Nat.zero_le _, Nat.zero_le _⟩ dX9_feed_48 (fun H locs h48 hH hf => ?_)
    refine lv_aload_n hx hb dX9_feed_51 rfl (lv_at hl 0 rfl) ?_
    refine pg_gR C hH fl_X9_12 hf dX9_feed_52 (fun v52 hf => ?_)
    refine lv_iload hx hb dX9_feed_55 (lv_at hl 5 rfl) ?_
    refine pg_Vv (As := [.int x5]) C hH mi_X6_add vl_X9_82 (q := (RX6, TX6, 2)) (ci := 6) rfl rfl hf (fun _ e1 => (oO_sp e1).1) (fun _ e1 => c_X6_add e1) rfl rfl hl.1 (Nat.le_of_ble_eq_true rfl) ⟨Nat.le_of_ble_eq_true rfl, Nat.le_of_ble_eq_true rfl⟩ ⟨Nat.zero_le _, Nat.zero_le _⟩ dX9_feed_57 (fun H locs h57 hH hf => ?_)
    refine lv_aload_n hx hb dX9_feed_60 rfl (lv_at hl 0 rfl) ?_
    refine pg_gR C hH fl_X9_12 hf dX9_feed_61 (fun v61 hf => ?_)
    refine pg_gI C hH fl_X9_78 hf dX9_feed_64 (fun v64 hf => ?_)
    exact pg_iret C hr hH hf dX9_feed_67
  · have hf := (if_neg cn).symm.trans hf
    refine lv_iconst (v := (-1 : Int32)) hx hb dX9_feed_16 (by decide) ?_
    exact pg_iret C hr hH hf dX9_feed_17
set_option maxHeartbeats 4000000 in
set_option maxRecDepth 100000 in
theorem c_X9_text {l : Launch} {g : GD} {h : PH} {a0 : Nat} {x1 : Int32} {r : Int32} {h' : PH} (hf : mX9_text h a0 x1 = some (r, h')) : Met l yX9_text (Cond.code yX9_text cX9_text 3 (some .int) :: TB) (rmD 7 0 0) (PcH g [.ref (gB g + a0), .int x1] h) (QcI g r h') 0 0 (aB g) := by
  refine Met.ofW (cc := cX9_text) (maxL := 3) (ret := some .int) (by decide) rfl ?_
  intro p e s m args below meth c s₁ B hml hv
  obtain ⟨rfl, hH0, hkk0⟩ := hv
  have C : CT g RX9 cX9_text 3 (Cond.code yX9_text cX9_text 3 (some .int) :: TB) p s m _ meth c := pg_ct (Tw := []) B hml hH0 hkk0
  have hr := B.returns
  have hH : HS g s s.heap [] h := ⟨hH0, va_S.rf⟩
  have hl := lv_entry ([.ref (gB g + a0), .int x1]) (n := 3) (Nat.le_of_ble_eq_true rfl)
  rw [lg_entry_eq]
  generalize (lg_sl ([.ref (gB g + a0), .int x1]) ++ List.replicate (3 - (lg_sl ([.ref (gB g + a0), .int x1])).length) Slot.unset).toArray = ls at hl ⊢
  have hl : lv_has ls 3 [(0, .ref (gB g + a0)), (1, .int x1)] := hl
  show W p l e (rmD 7 0 0) _ _ _ _ _ _ _ _ _ _ _ _
  unfold mX9_text at hf
  obtain ⟨hO, hf⟩ := oO_sp hf
  obtain ⟨⟨hx, hb, hml, hown, hts⟩, htb, hlk, hkk, hbs⟩ := id C
  refine lv_iload_n hx hb dX9_text_0 rfl (lv_at hl 1 rfl) ?_
  refine lv_if_lt (tgt := 15) hx hb dX9_text_1 (by decide) (fun cn => ?_) (fun cn => ?_)
  · have hf := (if_pos cn).symm.trans hf
    refine lv_iconst (v := (-1 : Int32)) hx hb dX9_text_15 (by decide) ?_
    exact pg_iret C hr hH hf dX9_text_16
  · have hf := (if_neg cn).symm.trans hf
    refine lv_iload_n hx hb dX9_text_4 rfl (lv_at hl 1 rfl) ?_
    refine lv_aload_n hx hb dX9_text_5 rfl (lv_at hl 0 rfl) ?_
    refine pg_gR C hH fl_X9_12 hf dX9_text_6 (fun v6 hf => ?_)
    refine pg_gI C hH fl_X9_78 hf dX9_text_9 (fun v9 hf => ?_)
    refine lv_icmp_le (tgt := 17) hx hb dX9_text_12 (by decide) (fun cn => ?_) (fun cn => ?_)
    · have hf := (if_pos cn).symm.trans hf
      refine lv_aload_n hx hb dX9_text_17 rfl (lv_at hl 0 rfl) ?_
      refine pg_gR C hH fl_X9_35 hf dX9_text_18 (fun v18 hf => ?_)
      refine lv_iload_n hx hb dX9_text_21 rfl (lv_at hl 1 rfl) ?_
      refine pg_Vi (As := [.int x1]) C hH mi_X4_read vl_X9_86 (q := (RX4, TX4, 8)) (ci := 4) rfl rfl hf (fun _ e1 => (oO_sp e1).1) (fun _ _ e1 => c_X4_read e1) rfl rfl hl.1 (Nat.le_of_ble_eq_true rfl) ⟨Nat.le_of_ble_eq_true rfl, Nat.le_of_ble_eq_true rfl⟩ ⟨Nat.zero_le _, Nat.zero_le _⟩ dX9_text_22 (fun H locs v22 h22 hH hf => ?_)
      refine lv_istore_n (lv' := [(2, .int v22), (0, .ref (gB g + a0)), (1, .int x1)]) hx hb dX9_text_25 rfl hl (by decide) rfl (fun ls hl => ?_)
      refine lv_aload_n hx hb dX9_text_26 rfl (lv_at hl 1 rfl) ?_
      refine pg_gR C hH fl_X9_12 hf dX9_text_27 (fun v27 hf => ?_)
      refine lv_iconst (v := (0 : Int32)) hx hb dX9_text_30 (by decide) ?_
      refine pg_pI C hH fl_X9_78 fm_6_1 hf dX9_text_31 (fun H locs h31 hH hf => ?_)
      refine lv_iload_n hx hb dX9_text_34 rfl (lv_at hl 0 rfl) ?_
      refine lv_if_lt (tgt := 61) hx hb dX9_text_35 (by decide) (fun cn => ?_) (fun cn => ?_)
      · have hf := (if_pos cn).symm.trans hf
        refine lv_iload_n hx hb dX9_text_61 rfl (lv_at hl 0 rfl) ?_
        exact pg_iret C hr hH hf dX9_text_62
      · have hf := (if_neg cn).symm.trans hf
        refine lv_aload_n hx hb dX9_text_38 rfl (lv_at hl 1 rfl) ?_
        refine pg_gR C hH fl_X9_19 hf dX9_text_39 (fun v39 hf => ?_)
        refine lv_aload_n hx hb dX9_text_42 rfl (lv_at hl 1 rfl) ?_
        refine pg_gR C hH fl_X9_23 hf dX9_text_43 (fun v43 hf => ?_)
        refine pg_Vv (As := [.ref (gB g + v43)]) C hH mi_X8_take vl_X9_90 (q := (RX8, TX8, 8)) (ci := 8) rfl rfl hf (fun _ e1 => (oO_sp e1).1) (fun _ e1 => c_X8_take e1) rfl rfl hl.1 (Nat.le_of_ble_eq_true rfl) ⟨Nat.le_of_ble_eq_true rfl, Nat.le_of_ble_eq_true rfl⟩ ⟨Nat.zero_le _, Nat.zero_le _⟩ dX9_text_46 (fun H locs h46 hH hf => ?_)
        refine lv_aload_n hx hb dX9_text_49 rfl (lv_at hl 1 rfl) ?_
        refine pg_gR C hH fl_X9_67 hf dX9_text_50 (fun v50 hf => ?_)
        refine pg_Vv (As := []) C hH mi_X0_clear vl_X9_93 (q := (RX0, TX0, 3)) (ci := 0) rfl rfl hf (fun _ e1 => (oO_sp e1).1) (fun _ e1 => c_X0_clear e1) rfl rfl hl.1 (Nat.le_of_ble_eq_true rfl) ⟨Nat.le_of_ble_eq_true rfl, Nat.le_of_ble_eq_true rfl⟩ ⟨Nat.zero_le _, Nat.zero_le _⟩ dX9_text_53 (fun H locs h53 hH hf => ?_)
        refine lv_aload_n hx hb dX9_text_56 rfl (lv_at hl 1 rfl) ?_
        refine lv_iconst (v := (0 : Int32)) hx hb dX9_text_57 (by decide) ?_
        refine pg_pI C hH fl_X9_96 fm_9_10 hf dX9_text_58 (fun H locs h58 hH hf => ?_)
        refine lv_iload_n hx hb dX9_text_61 rfl (lv_at hl 0 rfl) ?_
        exact pg_iret C hr hH hf dX9_text_62
    · have hf := (if_neg cn).symm.trans hf
      refine lv_iconst (v := (-1 : Int32)) hx hb dX9_text_15 (by decide) ?_
      exact pg_iret C hr hH hf dX9_text_16
set_option maxHeartbeats 4000000 in
set_option maxRecDepth 100000 in
theorem c_X9_count {l : Launch} {g : GD} {h : PH} {a0 : Nat} {x1 : Int32} {r : Int32} {h' : PH} (hf : mX9_count h a0 x1 = some (r, h')) : Met l yX9_count (Cond.code yX9_count cX9_count 2 (some .int) :: TB) (rmD 0 0 0) (PcH g [.ref (gB g + a0), .int x1] h) (QcI g r h') 0 0 (aB g) := by
  refine Met.ofW (cc := cX9_count) (maxL := 2) (ret := some .int) (by decide) rfl ?_
  intro p e s m args below meth c s₁ B hml hv
  obtain ⟨rfl, hH0, hkk0⟩ := hv
  have C : CT g RX9 cX9_count 2 (Cond.code yX9_count cX9_count 2 (some .int) :: TB) p s m _ meth c := pg_ct (Tw := []) B hml hH0 hkk0
  have hr := B.returns
  have hH : HS g s s.heap [] h := ⟨hH0, va_S.rf⟩
  have hl := lv_entry ([.ref (gB g + a0), .int x1]) (n := 2) (Nat.le_of_ble_eq_true rfl)
  rw [lg_entry_eq]
  generalize (lg_sl ([.ref (gB g + a0), .int x1]) ++ List.replicate (2 - (lg_sl ([.ref (gB g + a0), .int x1])).length) Slot.unset).toArray = ls at hl ⊢
  have hl : lv_has ls 2 [(0, .ref (gB g + a0)), (1, .int x1)] := hl
  show W p l e (rmD 0 0 0) _ _ _ _ _ _ _ _ _ _ _ _
  unfold mX9_count at hf
  obtain ⟨hO, hf⟩ := oO_sp hf
  obtain ⟨⟨hx, hb, hml, hown, hts⟩, htb, hlk, hkk, hbs⟩ := id C
  refine lv_iload_n hx hb dX9_count_0 rfl (lv_at hl 1 rfl) ?_
  refine lv_if_lt (tgt := 10) hx hb dX9_count_1 (by decide) (fun cn => ?_) (fun cn => ?_)
  · have hf := (if_pos cn).symm.trans hf
    refine lv_iconst (v := (-1 : Int32)) hx hb dX9_count_10 (by decide) ?_
    exact pg_iret C hr hH hf dX9_count_11
  · have hf := (if_neg cn).symm.trans hf
    refine lv_iload_n hx hb dX9_count_4 rfl (lv_at hl 1 rfl) ?_
    refine lv_bipush (v := (14 : Int32)) hx hb dX9_count_5 (by decide) ?_
    refine lv_icmp_lt (tgt := 12) hx hb dX9_count_7 (by decide) (fun cn => ?_) (fun cn => ?_)
    · have hf := (if_pos cn).symm.trans hf
      refine lv_iload_n hx hb dX9_count_12 rfl (lv_at hl 1 rfl) ?_
      refine lv_bipush (v := (11 : Int32)) hx hb dX9_count_13 (by decide) ?_
      refine lv_icmp_ne (tgt := 26) hx hb dX9_count_15 (by decide) (fun cn => ?_) (fun cn => ?_)
      · have hf := (if_neg cn).symm.trans hf
        refine lv_iload_n hx hb dX9_count_26 rfl (lv_at hl 1 rfl) ?_
        refine lv_bipush (v := (12 : Int32)) hx hb dX9_count_27 (by decide) ?_
        refine lv_icmp_ne (tgt := 42) hx hb dX9_count_29 (by decide) (fun cn => ?_) (fun cn => ?_)
        · have hf := (if_neg cn).symm.trans hf
          refine lv_aload_n hx hb dX9_count_42 rfl (lv_at hl 0 rfl) ?_
          refine pg_gR C hH fl_X9_19 hf dX9_count_43 (fun v43 hf => ?_)
          refine pg_gR C hH fl_X9_100 hf dX9_count_46 (fun v46 hf => ?_)
          refine lv_iload_n hx hb dX9_count_49 rfl (lv_at hl 1 rfl) ?_
          refine pg_aI C hH hf dX9_count_50 (fun v50 hf => ?_)
          exact pg_iret C hr hH hf dX9_count_51
        · have hf := (if_pos cn).symm.trans hf
          refine lv_aload_n hx hb dX9_count_32 rfl (lv_at hl 0 rfl) ?_
          refine pg_gR C hH fl_X9_12 hf dX9_count_33 (fun v33 hf => ?_)
          refine pg_gI C hH fl_X9_78 hf dX9_count_36 (fun v36 hf => ?_)
          refine lv_goto (tgt := 51) hx hb dX9_count_39 (by decide) ?_
          exact pg_iret C hr hH hf dX9_count_51
      · have hf := (if_pos cn).symm.trans hf
        refine lv_aload_n hx hb dX9_count_18 rfl (lv_at hl 0 rfl) ?_
        refine pg_gR C hH fl_X9_67 hf dX9_count_19 (fun v19 hf => ?_)
        refine pg_gI C hH fl_X9_99 hf dX9_count_22 (fun v22 hf => ?_)
        exact pg_iret C hr hH hf dX9_count_25
    · have hf := (if_neg cn).symm.trans hf
      refine lv_iconst (v := (-1 : Int32)) hx hb dX9_count_10 (by decide) ?_
      exact pg_iret C hr hH hf dX9_count_11
set_option maxHeartbeats 4000000 in
set_option maxRecDepth 100000 in
theorem c_X9_resold {l : Launch} {g : GD} {h : PH} {a0 : Nat} {x1 : Int32} {x2 : Int32} {r : Int32} {h' : PH} (hf : mX9_resold h a0 x1 x2 = some (r, h')) : Met l yX9_resold (Cond.code yX9_resold cX9_resold 3 (some .int) :: TB) (rmD 1 0 0) (PcH g [.ref (gB g + a0), .int x1, .int x2] h) (QcI g r h') 0 0 (aB g) := by
  refine Met.ofW (cc := cX9_resold) (maxL := 3) (ret := some .int) (by decide) rfl ?_
  intro p e s m args below meth c s₁ B hml hv
  obtain ⟨rfl, hH0, hkk0⟩ := hv
  have C : CT g RX9 cX9_resold 3 (Cond.code yX9_resold cX9_resold 3 (some .int) :: TB) p s m _ meth c := pg_ct (Tw := []) B hml hH0 hkk0
  have hr := B.returns
  have hH : HS g s s.heap [] h := ⟨hH0, va_S.rf⟩
  have hl := lv_entry ([.ref (gB g + a0), .int x1, .int x2]) (n := 3) (Nat.le_of_ble_eq_true rfl)
  rw [lg_entry_eq]
  generalize (lg_sl ([.ref (gB g + a0), .int x1, .int x2]) ++ List.replicate (3 - (lg_sl ([.ref (gB g + a0), .int x1, .int x2])).length) Slot.unset).toArray = ls at hl ⊢
  have hl : lv_has ls 3 [(0, .ref (gB g + a0)), (1, .int x1), (2, .int x2)] := hl
  show W p l e (rmD 1 0 0) _ _ _ _ _ _ _ _ _ _ _ _
  unfold mX9_resold at hf
  obtain ⟨hO, hf⟩ := oO_sp hf
  obtain ⟨⟨hx, hb, hml, hown, hts⟩, htb, hlk, hkk, hbs⟩ := id C
  refine lv_aload_n hx hb dX9_resold_0 rfl (lv_at hl 0 rfl) ?_
  refine pg_gR C hH fl_X9_19 hf dX9_resold_1 (fun v1 hf => ?_)
  refine lv_iconst (v := (4 : Int32)) hx hb dX9_resold_4 (by decide) ?_
  refine lv_iload_n hx hb dX9_resold_5 rfl (lv_at hl 1 rfl) ?_
  refine pg_Vi (As := [.int (4 : Int32), .int x1]) C hH mi_X8_has vl_X9_104 (q := (RX8, TX8, 8)) (ci := 8) rfl rfl hf (fun _ e1 => (oO_sp e1).1) (fun _ _ e1 => c_X8_has e1) rfl rfl hl.1 (Nat.le_of_ble_eq_true rfl) ⟨Nat.le_of_ble_eq_true rfl, Nat.le_of_ble_eq_true rfl⟩ ⟨Nat.zero_le _, Nat.zero_le _⟩ dX9_resold_6 (fun H locs v6 h6 hH hf => ?_)
  refine lv_if_eq (tgt := 21) hx hb dX9_resold_9 (by decide) (fun cn => ?_) (fun cn => ?_)
  · have hf := (if_pos cn).symm.trans hf
    refine lv_iconst (v := (-1 : Int32)) hx hb dX9_resold_21 (by decide) ?_
    exact pg_iret C hr hH hf dX9_resold_22
  · have hf := (if_neg cn).symm.trans hf
    refine lv_iload_n hx hb dX9_resold_12 rfl (lv_at hl 2 rfl) ?_
    refine lv_if_lt (tgt := 21) hx hb dX9_resold_13 (by decide) (fun cn => ?_) (fun cn => ?_)
    · have hf := (if_pos cn).symm.trans hf
      refine lv_iconst (v := (-1 : Int32)) hx hb dX9_resold_21 (by decide) ?_
      exact pg_iret C hr hH hf dX9_resold_22
    · have hf := (if_neg cn).symm.trans hf
      refine lv_iload_n hx hb dX9_resold_16 rfl (lv_at hl 2 rfl) ?_
      refine lv_iconst (v := (4 : Int32)) hx hb dX9_resold_17 (by decide) ?_
      refine lv_icmp_lt (tgt := 23) hx hb dX9_resold_18 (by decide) (fun cn => ?_) (fun cn => ?_)
      · have hf := (if_pos cn).symm.trans hf
        refine lv_aload_n hx hb dX9_resold_23 rfl (lv_at hl 0 rfl) ?_
        refine pg_gR C hH fl_X9_19 hf dX9_resold_24 (fun v24 hf => ?_)
        refine pg_gR C hH fl_X9_118 hf dX9_resold_27 (fun v27 hf => ?_)
        refine lv_iload_n hx hb dX9_resold_30 rfl (lv_at hl 1 rfl) ?_
        refine pg_aR C hH (Or.inr rfl) hf dX9_resold_31 (fun v31 hf => ?_)
        refine lv_iload_n hx hb dX9_resold_32 rfl (lv_at hl 2 rfl) ?_
        refine pg_aI C hH hf dX9_resold_33 (fun v33 hf => ?_)
        exact pg_iret C hr hH hf dX9_resold_34
      · have hf := (if_neg cn).symm.trans hf
        refine lv_iconst (v := (-1 : Int32)) hx hb dX9_resold_21 (by decide) ?_
        exact pg_iret C hr hH hf dX9_resold_22
set_option maxHeartbeats 4000000 in
set_option maxRecDepth 100000 in
theorem c_X9_kin {l : Launch} {g : GD} {h : PH} {a0 : Nat} {x1 : Int32} {x2 : Int32} {r : Int32} {h' : PH} (hf : mX9_kin h a0 x1 x2 = some (r, h')) : Met l yX9_kin (Cond.code yX9_kin cX9_kin 3 (some .int) :: TB) (rmD 4 0 0) (PcH g [.ref (gB g + a0), .int x1, .int x2] h) (QcI g r h') 0 0 (aB g) := by
  refine Met.ofW (cc := cX9_kin) (maxL := 3) (ret := some .int) (by decide) rfl ?_
  intro p e s m args below meth c s₁ B hml hv
  obtain ⟨rfl, hH0, hkk0⟩ := hv
  have C : CT g RX9 cX9_kin 3 (Cond.code yX9_kin cX9_kin 3 (some .int) :: TB) p s m _ meth c := pg_ct (Tw := []) B hml hH0 hkk0
  have hr := B.returns
  have hH : HS g s s.heap [] h := ⟨hH0, va_S.rf⟩
  have hl := lv_entry ([.ref (gB g + a0), .int x1, .int x2]) (n := 3) (Nat.le_of_ble_eq_true rfl)
  rw [lg_entry_eq]
  generalize (lg_sl ([.ref (gB g + a0), .int x1, .int x2]) ++ List.replicate (3 - (lg_sl ([.ref (gB g + a0), .int x1, .int x2])).length) Slot.unset).toArray = ls at hl ⊢
  have hl : lv_has ls 3 [(0, .ref (gB g + a0)), (1, .int x1), (2, .int x2)] := hl
  show W p l e (rmD 4 0 0) _ _ _ _ _ _ _ _ _ _ _ _
  unfold mX9_kin at hf
  obtain ⟨hO, hf⟩ := oO_sp hf
  obtain ⟨⟨hx, hb, hml, hown, hts⟩, htb, hlk, hkk, hbs⟩ := id C
  refine lv_aload_n hx hb dX9_kin_0 rfl (lv_at hl 0 rfl) ?_
  refine pg_gR C hH fl_X9_19 hf dX9_kin_1 (fun v1 hf => ?_)
  refine lv_iconst (v := (0 : Int32)) hx hb dX9_kin_4 (by decide) ?_
  refine lv_iload_n hx hb dX9_kin_5 rfl (lv_at hl 1 rfl) ?_
  refine pg_Vi (As := [.int (0 : Int32), .int x1]) C hH mi_X8_has vl_X9_104 (q := (RX8, TX8, 8)) (ci := 8) rfl rfl hf (fun _ e1 => (oO_sp e1).1) (fun _ _ e1 => c_X8_has e1) rfl rfl hl.1 (Nat.le_of_ble_eq_true rfl) ⟨Nat.le_of_ble_eq_true rfl, Nat.le_of_ble_eq_true rfl⟩ ⟨Nat.zero_le _, Nat.zero_le _⟩ dX9_kin_6 (fun H locs v6 h6 hH hf => ?_)
  refine lv_if_eq (tgt := 24) hx hb dX9_kin_9 (by decide) (fun cn => ?_) (fun cn => ?_)
  · have hf := (if_pos cn).symm.trans hf
    refine lv_iconst (v := (-1 : Int32)) hx hb dX9_kin_24 (by decide) ?_
    exact pg_iret C hr hH hf dX9_kin_25
  · have hf := (if_neg cn).symm.trans hf
    refine lv_aload_n hx hb dX9_kin_12 rfl (lv_at hl 0 rfl) ?_
    refine pg_gR C hH fl_X9_19 hf dX9_kin_13 (fun v13 hf => ?_)
    refine lv_iconst (v := (0 : Int32)) hx hb dX9_kin_16 (by decide) ?_
    refine lv_iload_n hx hb dX9_kin_17 rfl (lv_at hl 2 rfl) ?_
    refine pg_Vi (As := [.int (0 : Int32), .int x2]) C hH mi_X8_has vl_X9_104 (q := (RX8, TX8, 8)) (ci := 8) rfl rfl hf (fun _ e1 => (oO_sp e1).1) (fun _ _ e1 => c_X8_has e1) rfl rfl hl.1 (Nat.le_of_ble_eq_true rfl) ⟨Nat.le_of_ble_eq_true rfl, Nat.le_of_ble_eq_true rfl⟩ ⟨Nat.zero_le _, Nat.zero_le _⟩ dX9_kin_18 (fun H locs v18 h18 hH hf => ?_)
    refine lv_if_ne (tgt := 26) hx hb dX9_kin_21 (by decide) (fun cn => ?_) (fun cn => ?_)
    · have hf := (if_neg cn).symm.trans hf
      refine lv_aload_n hx hb dX9_kin_26 rfl (lv_at hl 0 rfl) ?_
      refine pg_gR C hH fl_X9_44 hf dX9_kin_27 (fun v27 hf => ?_)
      refine lv_iconst (v := (-1 : Int32)) hx hb dX9_kin_30 (by decide) ?_
      refine pg_Vv (As := [.int (-1 : Int32)]) C hH mi_X2_look vl_X9_121 (q := (RX2, TX2, 8)) (ci := 2) rfl rfl hf (fun _ e1 => (oO_sp e1).1) (fun _ e1 => c_X2_look e1) rfl rfl hl.1 (Nat.le_of_ble_eq_true rfl) ⟨Nat.le_of_ble_eq_true rfl, Nat.le_of_ble_eq_true rfl⟩ ⟨Nat.zero_le _, Nat.zero_le _⟩ dX9_kin_31 (fun H locs h31 hH hf => ?_)
      refine lv_aload_n hx hb dX9_kin_34 rfl (lv_at hl 0 rfl) ?_
      refine pg_gR C hH fl_X9_44 hf dX9_kin_35 (fun v35 hf => ?_)
      refine lv_iload_n hx hb dX9_kin_38 rfl (lv_at hl 1 rfl) ?_
      refine lv_iload_n hx hb dX9_kin_39 rfl (lv_at hl 2 rfl) ?_
      refine pg_Vi (As := [.int x1, .int x2]) C hH mi_X2_areKin vl_X9_124 (q := (RX2, TX2, 8)) (ci := 2) rfl rfl hf (fun _ e1 => (oO_sp e1).1) (fun _ _ e1 => c_X2_areKin e1) rfl rfl hl.1 (Nat.le_of_ble_eq_true rfl) ⟨Nat.le_of_ble_eq_true rfl, Nat.le_of_ble_eq_true rfl⟩ ⟨Nat.zero_le _, Nat.zero_le _⟩ dX9_kin_40 (fun H locs v40 h40 hH hf => ?_)
      refine lv_if_eq (tgt := 50) hx hb dX9_kin_43 (by decide) (fun cn => ?_) (fun cn => ?_)
      · have hf := (if_pos cn).symm.trans hf
        refine lv_iconst (v := (0 : Int32)) hx hb dX9_kin_50 (by decide) ?_
        exact pg_iret C hr hH hf dX9_kin_51
      · have hf := (if_neg cn).symm.trans hf
        refine lv_iconst (v := (1 : Int32)) hx hb dX9_kin_46 (by decide) ?_
        refine lv_goto (tgt := 51) hx hb dX9_kin_47 (by decide) ?_
        exact pg_iret C hr hH hf dX9_kin_51
    · have hf := (if_pos cn).symm.trans hf
      refine lv_iconst (v := (-1 : Int32)) hx hb dX9_kin_24 (by decide) ?_
      exact pg_iret C hr hH hf dX9_kin_25
set_option maxHeartbeats 4000000 in
set_option maxRecDepth 100000 in
theorem c_X9_like {l : Launch} {g : GD} {h : PH} {a0 : Nat} {x1 : Int32} {x2 : Int32} {r : Int32} {h' : PH} (hf : mX9_like h a0 x1 x2 = some (r, h')) : Met l yX9_like (Cond.code yX9_like cX9_like 3 (some .int) :: TB) (rmD 1 0 0) (PcH g [.ref (gB g + a0), .int x1, .int x2] h) (QcI g r h') 0 0 (aB g) := by
  refine Met.ofW (cc := cX9_like) (maxL := 3) (ret := some .int) (by decide) rfl ?_
  intro p e s m args below meth c s₁ B hml hv
  obtain ⟨rfl, hH0, hkk0⟩ := hv
  have C : CT g RX9 cX9_like 3 (Cond.code yX9_like cX9_like 3 (some .int) :: TB) p s m _ meth c := pg_ct (Tw := []) B hml hH0 hkk0
  have hr := B.returns
  have hH : HS g s s.heap [] h := ⟨hH0, va_S.rf⟩
  have hl := lv_entry ([.ref (gB g + a0), .int x1, .int x2]) (n := 3) (Nat.le_of_ble_eq_true rfl)
  rw [lg_entry_eq]
  generalize (lg_sl ([.ref (gB g + a0), .int x1, .int x2]) ++ List.replicate (3 - (lg_sl ([.ref (gB g + a0), .int x1, .int x2])).length) Slot.unset).toArray = ls at hl ⊢
  have hl : lv_has ls 3 [(0, .ref (gB g + a0)), (1, .int x1), (2, .int x2)] := hl
  show W p l e (rmD 1 0 0) _ _ _ _ _ _ _ _ _ _ _ _
  unfold mX9_like at hf
  obtain ⟨hO, hf⟩ := oO_sp hf
  obtain ⟨⟨hx, hb, hml, hown, hts⟩, htb, hlk, hkk, hbs⟩ := id C
  refine lv_aload_n hx hb dX9_like_0 rfl (lv_at hl 0 rfl) ?_
  refine pg_gR C hH fl_X9_19 hf dX9_like_1 (fun v1 hf => ?_)
  refine lv_iconst (v := (1 : Int32)) hx hb dX9_like_4 (by decide) ?_
  refine lv_iload_n hx hb dX9_like_5 rfl (lv_at hl 1 rfl) ?_
  refine pg_Vi (As := [.int (1 : Int32), .int x1]) C hH mi_X8_has vl_X9_104 (q := (RX8, TX8, 8)) (ci := 8) rfl rfl hf (fun _ e1 => (oO_sp e1).1) (fun _ _ e1 => c_X8_has e1) rfl rfl hl.1 (Nat.le_of_ble_eq_true rfl) ⟨Nat.le_of_ble_eq_true rfl, Nat.le_of_ble_eq_true rfl⟩ ⟨Nat.zero_le _, Nat.zero_le _⟩ dX9_like_6 (fun H locs v6 h6 hH hf => ?_)
  refine lv_if_eq (tgt := 24) hx hb dX9_like_9 (by decide) (fun cn => ?_) (fun cn => ?_)
  · have hf := (if_pos cn).symm.trans hf
    refine lv_iconst (v := (-1 : Int32)) hx hb dX9_like_24 (by decide) ?_
    exact pg_iret C hr hH hf dX9_like_25
  · have hf := (if_neg cn).symm.trans hf
    refine lv_aload_n hx hb dX9_like_12 rfl (lv_at hl 0 rfl) ?_
    refine pg_gR C hH fl_X9_19 hf dX9_like_13 (fun v13 hf => ?_)
    refine lv_iconst (v := (1 : Int32)) hx hb dX9_like_16 (by decide) ?_
    refine lv_iload_n hx hb dX9_like_17 rfl (lv_at hl 2 rfl) ?_
    refine pg_Vi (As := [.int (1 : Int32), .int x2]) C hH mi_X8_has vl_X9_104 (q := (RX8, TX8, 8)) (ci := 8) rfl rfl hf (fun _ e1 => (oO_sp e1).1) (fun _ _ e1 => c_X8_has e1) rfl rfl hl.1 (Nat.le_of_ble_eq_true rfl) ⟨Nat.le_of_ble_eq_true rfl, Nat.le_of_ble_eq_true rfl⟩ ⟨Nat.zero_le _, Nat.zero_le _⟩ dX9_like_18 (fun H locs v18 h18 hH hf => ?_)
    refine lv_if_ne (tgt := 26) hx hb dX9_like_21 (by decide) (fun cn => ?_) (fun cn => ?_)
    · have hf := (if_neg cn).symm.trans hf
      refine lv_iload_n hx hb dX9_like_26 rfl (lv_at hl 1 rfl) ?_
      refine lv_iload_n hx hb dX9_like_27 rfl (lv_at hl 2 rfl) ?_
      refine lv_icmp_ne (tgt := 33) hx hb dX9_like_28 (by decide) (fun cn => ?_) (fun cn => ?_)
      · have hf := (if_neg cn).symm.trans hf
        refine lv_aload_n hx hb dX9_like_33 rfl (lv_at hl 0 rfl) ?_
        refine pg_gR C hH fl_X9_19 hf dX9_like_34 (fun v34 hf => ?_)
        refine lv_iload_n hx hb dX9_like_37 rfl (lv_at hl 1 rfl) ?_
        refine lv_iload_n hx hb dX9_like_38 rfl (lv_at hl 2 rfl) ?_
        refine pg_Vi (As := [.int x1, .int x2]) C hH mi_X8_areSimilar vl_X9_127 (q := (RX8, TX8, 8)) (ci := 8) rfl rfl hf (fun _ e1 => (oO_sp e1).1) (fun _ _ e1 => c_X8_areSimilar e1) rfl rfl hl.1 (Nat.le_of_ble_eq_true rfl) ⟨Nat.le_of_ble_eq_true rfl, Nat.le_of_ble_eq_true rfl⟩ ⟨Nat.zero_le _, Nat.zero_le _⟩ dX9_like_39 (fun H locs v39 h39 hH hf => ?_)
        refine lv_if_eq (tgt := 49) hx hb dX9_like_42 (by decide) (fun cn => ?_) (fun cn => ?_)
        · have hf := (if_pos cn).symm.trans hf
          refine lv_iconst (v := (0 : Int32)) hx hb dX9_like_49 (by decide) ?_
          exact pg_iret C hr hH hf dX9_like_50
        · have hf := (if_neg cn).symm.trans hf
          refine lv_iconst (v := (2 : Int32)) hx hb dX9_like_45 (by decide) ?_
          refine lv_goto (tgt := 50) hx hb dX9_like_46 (by decide) ?_
          exact pg_iret C hr hH hf dX9_like_50
      · have hf := (if_pos cn).symm.trans hf
        refine lv_iconst (v := (1 : Int32)) hx hb dX9_like_31 (by decide) ?_
        exact pg_iret C hr hH hf dX9_like_32
    · have hf := (if_pos cn).symm.trans hf
      refine lv_iconst (v := (-1 : Int32)) hx hb dX9_like_24 (by decide) ?_
      exact pg_iret C hr hH hf dX9_like_25
set_option maxHeartbeats 4000000 in
set_option maxRecDepth 100000 in
theorem c_X9_band {l : Launch} {g : GD} {h : PH} {a0 : Nat} {x1 : Int32} {x2 : Int32} {r : Int32} {h' : PH} (hf : mX9_band h a0 x1 x2 = some (r, h')) : Met l yX9_band (Cond.code yX9_band cX9_band 3 (some .int) :: TB) (rmD 1 0 0) (PcH g [.ref (gB g + a0), .int x1, .int x2] h) (QcI g r h') 0 0 (aB g) := by
  refine Met.ofW (cc := cX9_band) (maxL := 3) (ret := some .int) (by decide) rfl ?_
  intro p e s m args below meth c s₁ B hml hv
  obtain ⟨rfl, hH0, hkk0⟩ := hv
  have C : CT g RX9 cX9_band 3 (Cond.code yX9_band cX9_band 3 (some .int) :: TB) p s m _ meth c := pg_ct (Tw := []) B hml hH0 hkk0
  have hr := B.returns
  have hH : HS g s s.heap [] h := ⟨hH0, va_S.rf⟩
  have hl := lv_entry ([.ref (gB g + a0), .int x1, .int x2]) (n := 3) (Nat.le_of_ble_eq_true rfl)
  rw [lg_entry_eq]
  generalize (lg_sl ([.ref (gB g + a0), .int x1, .int x2]) ++ List.replicate (3 - (lg_sl ([.ref (gB g + a0), .int x1, .int x2])).length) Slot.unset).toArray = ls at hl ⊢
  have hl : lv_has ls 3 [(0, .ref (gB g + a0)), (1, .int x1), (2, .int x2)] := hl
  show W p l e (rmD 1 0 0) _ _ _ _ _ _ _ _ _ _ _ _
  unfold mX9_band at hf
  obtain ⟨hO, hf⟩ := oO_sp hf
  obtain ⟨⟨hx, hb, hml, hown, hts⟩, htb, hlk, hkk, hbs⟩ := id C
  refine lv_aload_n hx hb dX9_band_0 rfl (lv_at hl 0 rfl) ?_
  refine pg_gR C hH fl_X9_19 hf dX9_band_1 (fun v1 hf => ?_)
  refine lv_iconst (v := (5 : Int32)) hx hb dX9_band_4 (by decide) ?_
  refine lv_iload_n hx hb dX9_band_5 rfl (lv_at hl 1 rfl) ?_
  refine pg_Vi (As := [.int (5 : Int32), .int x1]) C hH mi_X8_has vl_X9_104 (q := (RX8, TX8, 8)) (ci := 8) rfl rfl hf (fun _ e1 => (oO_sp e1).1) (fun _ _ e1 => c_X8_has e1) rfl rfl hl.1 (Nat.le_of_ble_eq_true rfl) ⟨Nat.le_of_ble_eq_true rfl, Nat.le_of_ble_eq_true rfl⟩ ⟨Nat.zero_le _, Nat.zero_le _⟩ dX9_band_6 (fun H locs v6 h6 hH hf => ?_)
  refine lv_if_eq (tgt := 21) hx hb dX9_band_9 (by decide) (fun cn => ?_) (fun cn => ?_)
  · have hf := (if_pos cn).symm.trans hf
    refine lv_iconst (v := (-1 : Int32)) hx hb dX9_band_21 (by decide) ?_
    exact pg_iret C hr hH hf dX9_band_22
  · have hf := (if_neg cn).symm.trans hf
    refine lv_iload_n hx hb dX9_band_12 rfl (lv_at hl 2 rfl) ?_
    refine lv_if_lt (tgt := 21) hx hb dX9_band_13 (by decide) (fun cn => ?_) (fun cn => ?_)
    · have hf := (if_pos cn).symm.trans hf
      refine lv_iconst (v := (-1 : Int32)) hx hb dX9_band_21 (by decide) ?_
      exact pg_iret C hr hH hf dX9_band_22
    · have hf := (if_neg cn).symm.trans hf
      refine lv_iload_n hx hb dX9_band_16 rfl (lv_at hl 2 rfl) ?_
      refine lv_iconst (v := (2 : Int32)) hx hb dX9_band_17 (by decide) ?_
      refine lv_icmp_lt (tgt := 23) hx hb dX9_band_18 (by decide) (fun cn => ?_) (fun cn => ?_)
      · have hf := (if_pos cn).symm.trans hf
        refine lv_aload_n hx hb dX9_band_23 rfl (lv_at hl 0 rfl) ?_
        refine pg_gR C hH fl_X9_19 hf dX9_band_24 (fun v24 hf => ?_)
        refine pg_gR C hH fl_X9_130 hf dX9_band_27 (fun v27 hf => ?_)
        refine lv_iload_n hx hb dX9_band_30 rfl (lv_at hl 1 rfl) ?_
        refine pg_aR C hH (Or.inr rfl) hf dX9_band_31 (fun v31 hf => ?_)
        refine lv_iload_n hx hb dX9_band_32 rfl (lv_at hl 2 rfl) ?_
        refine pg_aI C hH hf dX9_band_33 (fun v33 hf => ?_)
        exact pg_iret C hr hH hf dX9_band_34
      · have hf := (if_neg cn).symm.trans hf
        refine lv_iconst (v := (-1 : Int32)) hx hb dX9_band_21 (by decide) ?_
        exact pg_iret C hr hH hf dX9_band_22
set_option maxHeartbeats 4000000 in
set_option maxRecDepth 100000 in
theorem c_X9_assist {l : Launch} {g : GD} {h : PH} {a0 : Nat} {x1 : Int32} {x2 : Int32} {r : Int32} {h' : PH} (hf : mX9_assist h a0 x1 x2 = some (r, h')) : Met l yX9_assist (Cond.code yX9_assist cX9_assist 3 (some .int) :: TB) (rmD 1 0 0) (PcH g [.ref (gB g + a0), .int x1, .int x2] h) (QcI g r h') 0 0 (aB g) := by
  refine Met.ofW (cc := cX9_assist) (maxL := 3) (ret := some .int) (by decide) rfl ?_
  intro p e s m args below meth c s₁ B hml hv
  obtain ⟨rfl, hH0, hkk0⟩ := hv
  have C : CT g RX9 cX9_assist 3 (Cond.code yX9_assist cX9_assist 3 (some .int) :: TB) p s m _ meth c := pg_ct (Tw := []) B hml hH0 hkk0
  have hr := B.returns
  have hH : HS g s s.heap [] h := ⟨hH0, va_S.rf⟩
  have hl := lv_entry ([.ref (gB g + a0), .int x1, .int x2]) (n := 3) (Nat.le_of_ble_eq_true rfl)
  rw [lg_entry_eq]
  generalize (lg_sl ([.ref (gB g + a0), .int x1, .int x2]) ++ List.replicate (3 - (lg_sl ([.ref (gB g + a0), .int x1, .int x2])).length) Slot.unset).toArray = ls at hl ⊢
  have hl : lv_has ls 3 [(0, .ref (gB g + a0)), (1, .int x1), (2, .int x2)] := hl
  show W p l e (rmD 1 0 0) _ _ _ _ _ _ _ _ _ _ _ _
  unfold mX9_assist at hf
  obtain ⟨hO, hf⟩ := oO_sp hf
  obtain ⟨⟨hx, hb, hml, hown, hts⟩, htb, hlk, hkk, hbs⟩ := id C
  refine lv_aload_n hx hb dX9_assist_0 rfl (lv_at hl 0 rfl) ?_
  refine pg_gR C hH fl_X9_19 hf dX9_assist_1 (fun v1 hf => ?_)
  refine lv_iconst (v := (2 : Int32)) hx hb dX9_assist_4 (by decide) ?_
  refine lv_iload_n hx hb dX9_assist_5 rfl (lv_at hl 1 rfl) ?_
  refine pg_Vi (As := [.int (2 : Int32), .int x1]) C hH mi_X8_has vl_X9_104 (q := (RX8, TX8, 8)) (ci := 8) rfl rfl hf (fun _ e1 => (oO_sp e1).1) (fun _ _ e1 => c_X8_has e1) rfl rfl hl.1 (Nat.le_of_ble_eq_true rfl) ⟨Nat.le_of_ble_eq_true rfl, Nat.le_of_ble_eq_true rfl⟩ ⟨Nat.zero_le _, Nat.zero_le _⟩ dX9_assist_6 (fun H locs v6 h6 hH hf => ?_)
  refine lv_if_eq (tgt := 21) hx hb dX9_assist_9 (by decide) (fun cn => ?_) (fun cn => ?_)
  · have hf := (if_pos cn).symm.trans hf
    refine lv_iconst (v := (-1 : Int32)) hx hb dX9_assist_21 (by decide) ?_
    exact pg_iret C hr hH hf dX9_assist_22
  · have hf := (if_neg cn).symm.trans hf
    refine lv_iload_n hx hb dX9_assist_12 rfl (lv_at hl 2 rfl) ?_
    refine lv_if_lt (tgt := 21) hx hb dX9_assist_13 (by decide) (fun cn => ?_) (fun cn => ?_)
    · have hf := (if_pos cn).symm.trans hf
      refine lv_iconst (v := (-1 : Int32)) hx hb dX9_assist_21 (by decide) ?_
      exact pg_iret C hr hH hf dX9_assist_22
    · have hf := (if_neg cn).symm.trans hf
      refine lv_iload_n hx hb dX9_assist_16 rfl (lv_at hl 2 rfl) ?_
      refine lv_iconst (v := (2 : Int32)) hx hb dX9_assist_17 (by decide) ?_
      refine lv_icmp_lt (tgt := 23) hx hb dX9_assist_18 (by decide) (fun cn => ?_) (fun cn => ?_)
      · have hf := (if_pos cn).symm.trans hf
        refine lv_aload_n hx hb dX9_assist_23 rfl (lv_at hl 0 rfl) ?_
        refine pg_gR C hH fl_X9_19 hf dX9_assist_24 (fun v24 hf => ?_)
        refine pg_gR C hH fl_X9_133 hf dX9_assist_27 (fun v27 hf => ?_)
        refine lv_iload_n hx hb dX9_assist_30 rfl (lv_at hl 1 rfl) ?_
        refine pg_aR C hH (Or.inr rfl) hf dX9_assist_31 (fun v31 hf => ?_)
        refine lv_iload_n hx hb dX9_assist_32 rfl (lv_at hl 2 rfl) ?_
        refine pg_aI C hH hf dX9_assist_33 (fun v33 hf => ?_)
        exact pg_iret C hr hH hf dX9_assist_34
      · have hf := (if_neg cn).symm.trans hf
        refine lv_iconst (v := (-1 : Int32)) hx hb dX9_assist_21 (by decide) ?_
        exact pg_iret C hr hH hf dX9_assist_22
set_option maxHeartbeats 4000000 in
set_option maxRecDepth 100000 in
theorem c_X9_share {l : Launch} {g : GD} {h : PH} {a0 : Nat} {x1 : Int32} {x2 : Int32} {r : Int32} {h' : PH} (hf : mX9_share h a0 x1 x2 = some (r, h')) : Met l yX9_share (Cond.code yX9_share cX9_share 3 (some .int) :: TB) (rmD 4 0 0) (PcH g [.ref (gB g + a0), .int x1, .int x2] h) (QcI g r h') 0 0 (aB g) := by
  refine Met.ofW (cc := cX9_share) (maxL := 3) (ret := some .int) (by decide) rfl ?_
  intro p e s m args below meth c s₁ B hml hv
  obtain ⟨rfl, hH0, hkk0⟩ := hv
  have C : CT g RX9 cX9_share 3 (Cond.code yX9_share cX9_share 3 (some .int) :: TB) p s m _ meth c := pg_ct (Tw := []) B hml hH0 hkk0
  have hr := B.returns
  have hH : HS g s s.heap [] h := ⟨hH0, va_S.rf⟩
  have hl := lv_entry ([.ref (gB g + a0), .int x1, .int x2]) (n := 3) (Nat.le_of_ble_eq_true rfl)
  rw [lg_entry_eq]
  generalize (lg_sl ([.ref (gB g + a0), .int x1, .int x2]) ++ List.replicate (3 - (lg_sl ([.ref (gB g + a0), .int x1, .int x2])).length) Slot.unset).toArray = ls at hl ⊢
  have hl : lv_has ls 3 [(0, .ref (gB g + a0)), (1, .int x1), (2, .int x2)] := hl
  show W p l e (rmD 4 0 0) _ _ _ _ _ _ _ _ _ _ _ _
  unfold mX9_share at hf
  obtain ⟨hO, hf⟩ := oO_sp hf
  obtain ⟨⟨hx, hb, hml, hown, hts⟩, htb, hlk, hkk, hbs⟩ := id C
  refine lv_aload_n hx hb dX9_share_0 rfl (lv_at hl 0 rfl) ?_
  refine pg_gR C hH fl_X9_19 hf dX9_share_1 (fun v1 hf => ?_)
  refine lv_iconst (v := (2 : Int32)) hx hb dX9_share_4 (by decide) ?_
  refine lv_iload_n hx hb dX9_share_5 rfl (lv_at hl 1 rfl) ?_
  refine pg_Vi (As := [.int (2 : Int32), .int x1]) C hH mi_X8_has vl_X9_104 (q := (RX8, TX8, 8)) (ci := 8) rfl rfl hf (fun _ e1 => (oO_sp e1).1) (fun _ _ e1 => c_X8_has e1) rfl rfl hl.1 (Nat.le_of_ble_eq_true rfl) ⟨Nat.le_of_ble_eq_true rfl, Nat.le_of_ble_eq_true rfl⟩ ⟨Nat.zero_le _, Nat.zero_le _⟩ dX9_share_6 (fun H locs v6 h6 hH hf => ?_)
  refine lv_if_eq (tgt := 24) hx hb dX9_share_9 (by decide) (fun cn => ?_) (fun cn => ?_)
  · have hf := (if_pos cn).symm.trans hf
    refine lv_iconst (v := (-1 : Int32)) hx hb dX9_share_24 (by decide) ?_
    exact pg_iret C hr hH hf dX9_share_25
  · have hf := (if_neg cn).symm.trans hf
    refine lv_aload_n hx hb dX9_share_12 rfl (lv_at hl 0 rfl) ?_
    refine pg_gR C hH fl_X9_19 hf dX9_share_13 (fun v13 hf => ?_)
    refine lv_iconst (v := (3 : Int32)) hx hb dX9_share_16 (by decide) ?_
    refine lv_iload_n hx hb dX9_share_17 rfl (lv_at hl 2 rfl) ?_
    refine pg_Vi (As := [.int (3 : Int32), .int x2]) C hH mi_X8_has vl_X9_104 (q := (RX8, TX8, 8)) (ci := 8) rfl rfl hf (fun _ e1 => (oO_sp e1).1) (fun _ _ e1 => c_X8_has e1) rfl rfl hl.1 (Nat.le_of_ble_eq_true rfl) ⟨Nat.le_of_ble_eq_true rfl, Nat.le_of_ble_eq_true rfl⟩ ⟨Nat.zero_le _, Nat.zero_le _⟩ dX9_share_18 (fun H locs v18 h18 hH hf => ?_)
    refine lv_if_ne (tgt := 26) hx hb dX9_share_21 (by decide) (fun cn => ?_) (fun cn => ?_)
    · have hf := (if_neg cn).symm.trans hf
      refine lv_aload_n hx hb dX9_share_26 rfl (lv_at hl 0 rfl) ?_
      refine pg_gR C hH fl_X9_44 hf dX9_share_27 (fun v27 hf => ?_)
      refine lv_iconst (v := (-1 : Int32)) hx hb dX9_share_30 (by decide) ?_
      refine pg_Vv (As := [.int (-1 : Int32)]) C hH mi_X2_look vl_X9_121 (q := (RX2, TX2, 8)) (ci := 2) rfl rfl hf (fun _ e1 => (oO_sp e1).1) (fun _ e1 => c_X2_look e1) rfl rfl hl.1 (Nat.le_of_ble_eq_true rfl) ⟨Nat.le_of_ble_eq_true rfl, Nat.le_of_ble_eq_true rfl⟩ ⟨Nat.zero_le _, Nat.zero_le _⟩ dX9_share_31 (fun H locs h31 hH hf => ?_)
      refine lv_aload_n hx hb dX9_share_34 rfl (lv_at hl 0 rfl) ?_
      refine pg_gR C hH fl_X9_44 hf dX9_share_35 (fun v35 hf => ?_)
      refine pg_gR C hH fl_X9_136 hf dX9_share_38 (fun v38 hf => ?_)
      refine lv_iload_n hx hb dX9_share_41 rfl (lv_at hl 1 rfl) ?_
      refine pg_aR C hH (Or.inr rfl) hf dX9_share_42 (fun v42 hf => ?_)
      refine lv_iload_n hx hb dX9_share_43 rfl (lv_at hl 2 rfl) ?_
      refine pg_aI C hH hf dX9_share_44 (fun v44 hf => ?_)
      exact pg_iret C hr hH hf dX9_share_45
    · have hf := (if_pos cn).symm.trans hf
      refine lv_iconst (v := (-1 : Int32)) hx hb dX9_share_24 (by decide) ?_
      exact pg_iret C hr hH hf dX9_share_25
set_option maxHeartbeats 4000000 in
set_option maxRecDepth 100000 in
theorem wX9_rest_b36 {r36 : PH → Nat → Int32 → Int32 → Int32 → Option (Int32 × PH)} {r : Int32} {h' : PH} (C : CT g RX9 cX9_rest 4 (Cond.code yX9_rest cX9_rest 4 (some .int) :: TB) p s m args meth c) (hr : meth.sig.returnType = some .int) (k36 : ∀ {h : PH} {a0 : Nat} {x1 : Int32} {x2 : Int32} {x3 : Int32} {H : Heap} {locs : List Loc} {ls : Array Slot}, HS g s H locs h → r36 h a0 x1 x2 x3 = some (r, h') → lv_has ls 4 [(0, .ref (gB g + a0)), (1, .int x1), (2, .int x2), (3, .int x3)] → W p l e (rmD 4 0 0) s m args below meth c H locs 0 0 (MQ below (QcI g r h') args s 0 0 (aB g)) (F0 m 36 ls [])) {h : PH} {a0 : Nat} {x1 : Int32} {x2 : Int32} {x3 : Int32} {H : Heap} {locs : List Loc} {ls : Array Slot} (hH : HS g s H locs h) (hf : mX9_rest_b36 r36 h a0 x1 x2 x3 = some (r, h')) (hl : lv_has ls 4 [(0, .ref (gB g + a0)), (1, .int x1), (2, .int x2), (3, .int x3)]) : W p l e (rmD 4 0 0) s m args below meth c H locs 0 0 (MQ below (QcI g r h') args s 0 0 (aB g)) (F0 m 36 ls []) := by
  obtain ⟨⟨hx, hb, hml, hown, hts⟩, htb, hlk, hkk, hbs⟩ := id C
  unfold mX9_rest_b36 at hf
  refine lv_iload_n hx hb dX9_rest_36 rfl (lv_at hl 3 rfl) ?_
  refine lv_aload_n hx hb dX9_rest_37 rfl (lv_at hl 0 rfl) ?_
  refine pg_gR C hH fl_X9_19 hf dX9_rest_38 (fun v38 hf => ?_)
  refine pg_gR C hH fl_X9_100 hf dX9_rest_41 (fun v41 hf => ?_)
  refine lv_iconst (v := (3 : Int32)) hx hb dX9_rest_44 (by decide) ?_
  refine pg_aI C hH hf dX9_rest_45 (fun v45 hf => ?_)
  refine lv_icmp_ge (tgt := 69) hx hb dX9_rest_46 (by decide) (fun cn => ?_) (fun cn => ?_)
  · have hf := (if_pos cn).symm.trans hf
    refine lv_iload_n hx hb dX9_rest_69 rfl (lv_at hl 2 rfl) ?_
    exact pg_iret C hr hH hf dX9_rest_70
  · have hf := (if_neg cn).symm.trans hf
    refine lv_iload_n hx hb dX9_rest_49 rfl (lv_at hl 2 rfl) ?_
    refine lv_aload_n hx hb dX9_rest_50 rfl (lv_at hl 0 rfl) ?_
    refine pg_gR C hH fl_X9_44 hf dX9_rest_51 (fun v51 hf => ?_)
    refine pg_gR C hH fl_X9_136 hf dX9_rest_54 (fun v54 hf => ?_)
    refine lv_iload_n hx hb dX9_rest_57 rfl (lv_at hl 1 rfl) ?_
    refine pg_aR C hH (Or.inr rfl) hf dX9_rest_58 (fun v58 hf => ?_)
    refine lv_iload_n hx hb dX9_rest_59 rfl (lv_at hl 3 rfl) ?_
    refine pg_aI C hH hf dX9_rest_60 (fun v60 hf => ?_)
    refine lv_isub hx hb dX9_rest_61 ?_
    refine lv_istore_n (lv' := [(2, .int (x2 - v60)), (0, .ref (gB g + a0)), (1, .int x1), (3, .int x3)]) hx hb dX9_rest_62 rfl hl (by decide) rfl (fun ls hl => ?_)
    refine lv_iinc (v := (x3 + 1)) (lv' := [(3, .int (x3 + 1)), (2, .int (x2 - v60)), (0, .ref (gB g + a0)), (1, .int x1)]) hx hb dX9_rest_63 hl (k := 3) rfl rfl (by decide) rfl (fun ls hl => ?_)
    refine lv_goto (tgt := 36) hx hb dX9_rest_66 (by decide) ?_
    exact k36 hH hf (lv_sub hl [2, 3, 1, 0] rfl)
set_option maxHeartbeats 4000000 in
set_option maxRecDepth 100000 in
theorem wX9_rest_L36 {r : Int32} {h' : PH} (C : CT g RX9 cX9_rest 4 (Cond.code yX9_rest cX9_rest 4 (some .int) :: TB) p s m args meth c) (hr : meth.sig.returnType = some .int) : ∀ (n : Nat) {h : PH} {a0 : Nat} {x1 : Int32} {x2 : Int32} {x3 : Int32} {H : Heap} {locs : List Loc} {ls : Array Slot}, HS g s H locs h → mX9_rest_L36 n h a0 x1 x2 x3 = some (r, h') → lv_has ls 4 [(0, .ref (gB g + a0)), (1, .int x1), (2, .int x2), (3, .int x3)] → W p l e (rmD 4 0 0) s m args below meth c H locs 0 0 (MQ below (QcI g r h') args s 0 0 (aB g)) (F0 m 36 ls []) := by
  intro n
  induction n with
  | zero =>
    intro h a0 x1 x2 x3 H locs ls hH hf hl
    exact absurd hf (by intro z; cases z)
  | succ n ih =>
    intro h a0 x1 x2 x3 H locs ls hH hf hl
    have hf : mX9_rest_b36 (mX9_rest_L36 n) h a0 x1 x2 x3 = some (r, h') := hf
    exact wX9_rest_b36 C hr (fun a b c => ih a b c) hH hf hl
set_option maxHeartbeats 4000000 in
set_option maxRecDepth 100000 in
theorem c_X9_rest {l : Launch} {g : GD} {h : PH} {a0 : Nat} {x1 : Int32} {r : Int32} {h' : PH} (hf : mX9_rest h a0 x1 = some (r, h')) : Met l yX9_rest (Cond.code yX9_rest cX9_rest 4 (some .int) :: TB) (rmD 4 0 0) (PcH g [.ref (gB g + a0), .int x1] h) (QcI g r h') 0 0 (aB g) := by
  refine Met.ofW (cc := cX9_rest) (maxL := 4) (ret := some .int) (by decide) rfl ?_
  intro p e s m args below meth c s₁ B hml hv
  obtain ⟨rfl, hH0, hkk0⟩ := hv
  have C : CT g RX9 cX9_rest 4 (Cond.code yX9_rest cX9_rest 4 (some .int) :: TB) p s m _ meth c := pg_ct (Tw := []) B hml hH0 hkk0
  have hr := B.returns
  have hH : HS g s s.heap [] h := ⟨hH0, va_S.rf⟩
  have hl := lv_entry ([.ref (gB g + a0), .int x1]) (n := 4) (Nat.le_of_ble_eq_true rfl)
  rw [lg_entry_eq]
  generalize (lg_sl ([.ref (gB g + a0), .int x1]) ++ List.replicate (4 - (lg_sl ([.ref (gB g + a0), .int x1])).length) Slot.unset).toArray = ls at hl ⊢
  have hl : lv_has ls 4 [(0, .ref (gB g + a0)), (1, .int x1)] := hl
  show W p l e (rmD 4 0 0) _ _ _ _ _ _ _ _ _ _ _ _
  unfold mX9_rest at hf
  obtain ⟨hO, hf⟩ := oO_sp hf
  obtain ⟨⟨hx, hb, hml, hown, hts⟩, htb, hlk, hkk, hbs⟩ := id C
  refine lv_aload_n hx hb dX9_rest_0 rfl (lv_at hl 0 rfl) ?_
  refine pg_gR C hH fl_X9_19 hf dX9_rest_1 (fun v1 hf => ?_)
  refine lv_iconst (v := (2 : Int32)) hx hb dX9_rest_4 (by decide) ?_
  refine lv_iload_n hx hb dX9_rest_5 rfl (lv_at hl 1 rfl) ?_
  refine pg_Vi (As := [.int (2 : Int32), .int x1]) C hH mi_X8_has vl_X9_104 (q := (RX8, TX8, 8)) (ci := 8) rfl rfl hf (fun _ e1 => (oO_sp e1).1) (fun _ _ e1 => c_X8_has e1) rfl rfl hl.1 (Nat.le_of_ble_eq_true rfl) ⟨Nat.le_of_ble_eq_true rfl, Nat.le_of_ble_eq_true rfl⟩ ⟨Nat.zero_le _, Nat.zero_le _⟩ dX9_rest_6 (fun H locs v6 h6 hH hf => ?_)
  refine lv_if_ne (tgt := 14) hx hb dX9_rest_9 (by decide) (fun cn => ?_) (fun cn => ?_)
  · have hf := (if_neg cn).symm.trans hf
    refine lv_aload_n hx hb dX9_rest_14 rfl (lv_at hl 0 rfl) ?_
    refine pg_gR C hH fl_X9_44 hf dX9_rest_15 (fun v15 hf => ?_)
    refine lv_iconst (v := (-1 : Int32)) hx hb dX9_rest_18 (by decide) ?_
    refine pg_Vv (As := [.int (-1 : Int32)]) C hH mi_X2_look vl_X9_121 (q := (RX2, TX2, 8)) (ci := 2) rfl rfl hf (fun _ e1 => (oO_sp e1).1) (fun _ e1 => c_X2_look e1) rfl rfl hl.1 (Nat.le_of_ble_eq_true rfl) ⟨Nat.le_of_ble_eq_true rfl, Nat.le_of_ble_eq_true rfl⟩ ⟨Nat.zero_le _, Nat.zero_le _⟩ dX9_rest_19 (fun H locs h19 hH hf => ?_)
    refine lv_aload_n hx hb dX9_rest_22 rfl (lv_at hl 0 rfl) ?_
    refine pg_gR C hH fl_X9_19 hf dX9_rest_23 (fun v23 hf => ?_)
    refine pg_gR C hH fl_X9_133 hf dX9_rest_26 (fun v26 hf => ?_)
    refine lv_iload_n hx hb dX9_rest_29 rfl (lv_at hl 1 rfl) ?_
    refine pg_aR C hH (Or.inr rfl) hf dX9_rest_30 (fun v30 hf => ?_)
    refine lv_iconst (v := (0 : Int32)) hx hb dX9_rest_31 (by decide) ?_
    refine pg_aI C hH hf dX9_rest_32 (fun v32 hf => ?_)
    refine lv_istore_n (lv' := [(2, .int v32), (0, .ref (gB g + a0)), (1, .int x1)]) hx hb dX9_rest_33 rfl hl (by decide) rfl (fun ls hl => ?_)
    refine lv_iconst (v := (0 : Int32)) hx hb dX9_rest_34 (by decide) ?_
    refine lv_istore_n (lv' := [(3, .int (0 : Int32)), (2, .int v32), (0, .ref (gB g + a0)), (1, .int x1)]) hx hb dX9_rest_35 rfl hl (by decide) rfl (fun ls hl => ?_)
    exact wX9_rest_L36 C hr FU hH hf (lv_sub hl [2, 3, 1, 0] rfl)
  · have hf := (if_pos cn).symm.trans hf
    refine lv_iconst (v := (-1 : Int32)) hx hb dX9_rest_12 (by decide) ?_
    exact pg_iret C hr hH hf dX9_rest_13
set_option maxHeartbeats 4000000 in
set_option maxRecDepth 100000 in
theorem c_X9_own {l : Launch} {g : GD} {h : PH} {a0 : Nat} {x1 : Int32} {r : Int64} {h' : PH} (hf : mX9_own h a0 x1 = some (r, h')) : Met l yX9_own (Cond.code yX9_own cX9_own 2 (some .long) :: TB) (rmD 4 0 0) (PcH g [.ref (gB g + a0), .int x1] h) (QcL g r h') 0 0 (aB g) := by
  refine Met.ofW (cc := cX9_own) (maxL := 2) (ret := some .long) (by decide) rfl ?_
  intro p e s m args below meth c s₁ B hml hv
  obtain ⟨rfl, hH0, hkk0⟩ := hv
  have C : CT g RX9 cX9_own 2 (Cond.code yX9_own cX9_own 2 (some .long) :: TB) p s m _ meth c := pg_ct (Tw := []) B hml hH0 hkk0
  have hr := B.returns
  have hH : HS g s s.heap [] h := ⟨hH0, va_S.rf⟩
  have hl := lv_entry ([.ref (gB g + a0), .int x1]) (n := 2) (Nat.le_of_ble_eq_true rfl)
  rw [lg_entry_eq]
  generalize (lg_sl ([.ref (gB g + a0), .int x1]) ++ List.replicate (2 - (lg_sl ([.ref (gB g + a0), .int x1])).length) Slot.unset).toArray = ls at hl ⊢
  have hl : lv_has ls 2 [(0, .ref (gB g + a0)), (1, .int x1)] := hl
  show W p l e (rmD 4 0 0) _ _ _ _ _ _ _ _ _ _ _ _
  unfold mX9_own at hf
  obtain ⟨hO, hf⟩ := oO_sp hf
  obtain ⟨⟨hx, hb, hml, hown, hts⟩, htb, hlk, hkk, hbs⟩ := id C
  refine lv_aload_n hx hb dX9_own_0 rfl (lv_at hl 0 rfl) ?_
  refine pg_gR C hH fl_X9_19 hf dX9_own_1 (fun v1 hf => ?_)
  refine lv_iconst (v := (3 : Int32)) hx hb dX9_own_4 (by decide) ?_
  refine lv_iload_n hx hb dX9_own_5 rfl (lv_at hl 1 rfl) ?_
  refine pg_Vi (As := [.int (3 : Int32), .int x1]) C hH mi_X8_has vl_X9_104 (q := (RX8, TX8, 8)) (ci := 8) rfl rfl hf (fun _ e1 => (oO_sp e1).1) (fun _ _ e1 => c_X8_has e1) rfl rfl hl.1 (Nat.le_of_ble_eq_true rfl) ⟨Nat.le_of_ble_eq_true rfl, Nat.le_of_ble_eq_true rfl⟩ ⟨Nat.zero_le _, Nat.zero_le _⟩ dX9_own_6 (fun H locs v6 h6 hH hf => ?_)
  refine lv_if_ne (tgt := 16) hx hb dX9_own_9 (by decide) (fun cn => ?_) (fun cn => ?_)
  · have hf := (if_neg cn).symm.trans hf
    refine lv_aload_n hx hb dX9_own_16 rfl (lv_at hl 0 rfl) ?_
    refine pg_gR C hH fl_X9_44 hf dX9_own_17 (fun v17 hf => ?_)
    refine lv_iconst (v := (-1 : Int32)) hx hb dX9_own_20 (by decide) ?_
    refine pg_Vv (As := [.int (-1 : Int32)]) C hH mi_X2_look vl_X9_121 (q := (RX2, TX2, 8)) (ci := 2) rfl rfl hf (fun _ e1 => (oO_sp e1).1) (fun _ e1 => c_X2_look e1) rfl rfl hl.1 (Nat.le_of_ble_eq_true rfl) ⟨Nat.le_of_ble_eq_true rfl, Nat.le_of_ble_eq_true rfl⟩ ⟨Nat.zero_le _, Nat.zero_le _⟩ dX9_own_21 (fun H locs h21 hH hf => ?_)
    refine lv_aload_n hx hb dX9_own_24 rfl (lv_at hl 0 rfl) ?_
    refine pg_gR C hH fl_X9_44 hf dX9_own_25 (fun v25 hf => ?_)
    refine pg_gR C hH fl_X9_141 hf dX9_own_28 (fun v28 hf => ?_)
    refine lv_iload_n hx hb dX9_own_31 rfl (lv_at hl 1 rfl) ?_
    refine pg_aL C hH hf dX9_own_32 (fun v32 hf => ?_)
    exact pg_lret C hr hH hf dX9_own_33
  · have hf := (if_pos cn).symm.trans hf
    refine lv_ldc2 (v := (-1 : Int64)) hx hb hown (hts _ (htb _ kl_X9_139)) dX9_own_12 ?_
    exact pg_lret C hr hH hf dX9_own_15
set_option maxHeartbeats 4000000 in
set_option maxRecDepth 100000 in
theorem c_X9_by {l : Launch} {g : GD} {h : PH} {a0 : Nat} {x1 : Int32} {x2 : Int32} {r : Int64} {h' : PH} (hf : mX9_by h a0 x1 x2 = some (r, h')) : Met l yX9_by (Cond.code yX9_by cX9_by 3 (some .long) :: TB) (rmD 6 0 0) (PcH g [.ref (gB g + a0), .int x1, .int x2] h) (QcL g r h') 0 0 (aB g) := by
  refine Met.ofW (cc := cX9_by) (maxL := 3) (ret := some .long) (by decide) rfl ?_
  intro p e s m args below meth c s₁ B hml hv
  obtain ⟨rfl, hH0, hkk0⟩ := hv
  have C : CT g RX9 cX9_by 3 (Cond.code yX9_by cX9_by 3 (some .long) :: TB) p s m _ meth c := pg_ct (Tw := []) B hml hH0 hkk0
  have hr := B.returns
  have hH : HS g s s.heap [] h := ⟨hH0, va_S.rf⟩
  have hl := lv_entry ([.ref (gB g + a0), .int x1, .int x2]) (n := 3) (Nat.le_of_ble_eq_true rfl)
  rw [lg_entry_eq]
  generalize (lg_sl ([.ref (gB g + a0), .int x1, .int x2]) ++ List.replicate (3 - (lg_sl ([.ref (gB g + a0), .int x1, .int x2])).length) Slot.unset).toArray = ls at hl ⊢
  have hl : lv_has ls 3 [(0, .ref (gB g + a0)), (1, .int x1), (2, .int x2)] := hl
  show W p l e (rmD 6 0 0) _ _ _ _ _ _ _ _ _ _ _ _
  unfold mX9_by at hf
  obtain ⟨hO, hf⟩ := oO_sp hf
  obtain ⟨⟨hx, hb, hml, hown, hts⟩, htb, hlk, hkk, hbs⟩ := id C
  refine lv_aload_n hx hb dX9_by_0 rfl (lv_at hl 0 rfl) ?_
  refine pg_gR C hH fl_X9_19 hf dX9_by_1 (fun v1 hf => ?_)
  refine lv_iconst (v := (3 : Int32)) hx hb dX9_by_4 (by decide) ?_
  refine lv_iload_n hx hb dX9_by_5 rfl (lv_at hl 1 rfl) ?_
  refine pg_Vi (As := [.int (3 : Int32), .int x1]) C hH mi_X8_has vl_X9_104 (q := (RX8, TX8, 8)) (ci := 8) rfl rfl hf (fun _ e1 => (oO_sp e1).1) (fun _ _ e1 => c_X8_has e1) rfl rfl hl.1 (Nat.le_of_ble_eq_true rfl) ⟨Nat.le_of_ble_eq_true rfl, Nat.le_of_ble_eq_true rfl⟩ ⟨Nat.zero_le _, Nat.zero_le _⟩ dX9_by_6 (fun H locs v6 h6 hH hf => ?_)
  refine lv_if_eq (tgt := 23) hx hb dX9_by_9 (by decide) (fun cn => ?_) (fun cn => ?_)
  · have hf := (if_pos cn).symm.trans hf
    refine lv_ldc2 (v := (-1 : Int64)) hx hb hown (hts _ (htb _ kl_X9_139)) dX9_by_23 ?_
    exact pg_lret C hr hH hf dX9_by_26
  · have hf := (if_neg cn).symm.trans hf
    refine lv_iload_n hx hb dX9_by_12 rfl (lv_at hl 2 rfl) ?_
    refine lv_iconst (v := (1 : Int32)) hx hb dX9_by_13 (by decide) ?_
    refine lv_icmp_lt (tgt := 23) hx hb dX9_by_14 (by decide) (fun cn => ?_) (fun cn => ?_)
    · have hf := (if_pos cn).symm.trans hf
      refine lv_ldc2 (v := (-1 : Int64)) hx hb hown (hts _ (htb _ kl_X9_139)) dX9_by_23 ?_
      exact pg_lret C hr hH hf dX9_by_26
    · have hf := (if_neg cn).symm.trans hf
      refine lv_iload_n hx hb dX9_by_17 rfl (lv_at hl 2 rfl) ?_
      refine lv_bipush (v := (6 : Int32)) hx hb dX9_by_18 (by decide) ?_
      refine lv_icmp_le (tgt := 27) hx hb dX9_by_20 (by decide) (fun cn => ?_) (fun cn => ?_)
      · have hf := (if_pos cn).symm.trans hf
        refine lv_aload_n hx hb dX9_by_27 rfl (lv_at hl 0 rfl) ?_
        refine pg_gR C hH fl_X9_53 hf dX9_by_28 (fun v28 hf => ?_)
        refine lv_iconst (v := (-1 : Int32)) hx hb dX9_by_31 (by decide) ?_
        refine pg_Vv (As := [.int (-1 : Int32)]) C hH mi_X1_look vl_X9_145 (q := (RX1, TX1, 11)) (ci := 1) rfl rfl hf (fun _ e1 => (oO_sp e1).1) (fun _ e1 => c_X1_look e1) rfl rfl hl.1 (Nat.le_of_ble_eq_true rfl) ⟨Nat.le_of_ble_eq_true rfl, Nat.le_of_ble_eq_true rfl⟩ ⟨Nat.zero_le _, Nat.zero_le _⟩ dX9_by_32 (fun H locs h32 hH hf => ?_)
        refine lv_aload_n hx hb dX9_by_35 rfl (lv_at hl 0 rfl) ?_
        refine pg_gR C hH fl_X9_53 hf dX9_by_36 (fun v36 hf => ?_)
        refine lv_iload_n hx hb dX9_by_39 rfl (lv_at hl 1 rfl) ?_
        refine lv_iload_n hx hb dX9_by_40 rfl (lv_at hl 2 rfl) ?_
        refine pg_Vv (As := [.int x1, .int x2]) C hH mi_X1_ask vl_X9_146 (q := (RX1, TX1, 11)) (ci := 1) rfl rfl hf (fun _ e1 => (oO_sp e1).1) (fun _ e1 => c_X1_ask e1) rfl rfl hl.1 (Nat.le_of_ble_eq_true rfl) ⟨Nat.le_of_ble_eq_true rfl, Nat.le_of_ble_eq_true rfl⟩ ⟨Nat.zero_le _, Nat.zero_le _⟩ dX9_by_41 (fun H locs h41 hH hf => ?_)
        refine lv_aload_n hx hb dX9_by_44 rfl (lv_at hl 0 rfl) ?_
        refine pg_gR C hH fl_X9_53 hf dX9_by_45 (fun v45 hf => ?_)
        refine pg_gI C hH fl_X9_150 hf dX9_by_48 (fun v48 hf => ?_)
        refine lv_if_ne (tgt := 64) hx hb dX9_by_51 (by decide) (fun cn => ?_) (fun cn => ?_)
        · have hf := (if_neg cn).symm.trans hf
          refine lv_bipush (v := (-2 : Int32)) hx hb dX9_by_64 (by decide) ?_
          refine lv_aload_n hx hb dX9_by_66 rfl (lv_at hl 0 rfl) ?_
          refine pg_gR C hH fl_X9_53 hf dX9_by_67 (fun v67 hf => ?_)
          refine pg_gI C hH fl_X9_150 hf dX9_by_70 (fun v70 hf => ?_)
          refine lv_isub hx hb dX9_by_73 ?_
          refine lv_i2l (v := (Int32.toInt64 ((-2 : Int32) - v70))) hx hb dX9_by_74 rfl ?_
          exact pg_lret C hr hH hf dX9_by_75
        · have hf := (if_pos cn).symm.trans hf
          refine lv_aload_n hx hb dX9_by_54 rfl (lv_at hl 0 rfl) ?_
          refine pg_gR C hH fl_X9_53 hf dX9_by_55 (fun v55 hf => ?_)
          refine pg_gL C hH fl_X9_153 hf dX9_by_58 (fun v58 hf => ?_)
          refine lv_goto (tgt := 75) hx hb dX9_by_61 (by decide) ?_
          exact pg_lret C hr hH hf dX9_by_75
      · have hf := (if_neg cn).symm.trans hf
        refine lv_ldc2 (v := (-1 : Int64)) hx hb hown (hts _ (htb _ kl_X9_139)) dX9_by_23 ?_
        exact pg_lret C hr hH hf dX9_by_26
set_option maxHeartbeats 4000000 in
set_option maxRecDepth 100000 in
theorem wX9_base_b26 {r : Int32} {h' : PH} (C : CT g RX9 cX9_base 4 (Cond.code yX9_base cX9_base 4 (some .int) :: TB) p s m args meth c) (hr : meth.sig.returnType = some .int) {h : PH} {a0 : Nat} {x1 : Int32} {x2 : Int32} {s0 : Int32} {H : Heap} {locs : List Loc} {ls : Array Slot} (hH : HS g s H locs h) (hf : mX9_base_b26 h a0 x1 x2 s0 = some (r, h')) (hl : lv_has ls 4 [(0, .ref (gB g + a0)), (1, .int x1), (2, .int x2)]) : W p l e (rmD 6 0 0) s m args below meth c H locs 0 0 (MQ below (QcI g r h') args s 0 0 (aB g)) (F0 m 26 ls [.int s0]) := by
  obtain ⟨⟨hx, hb, hml, hown, hts⟩, htb, hlk, hkk, hbs⟩ := id C
  unfold mX9_base_b26 at hf
  refine lv_istore_n (lv' := [(3, .int s0), (0, .ref (gB g + a0)), (1, .int x1), (2, .int x2)]) hx hb dX9_base_26 rfl hl (by decide) rfl (fun ls hl => ?_)
  refine lv_aload_n hx hb dX9_base_27 rfl (lv_at hl 1 rfl) ?_
  refine pg_gR C hH fl_X9_19 hf dX9_base_28 (fun v28 hf => ?_)
  refine lv_iconst (v := (3 : Int32)) hx hb dX9_base_31 (by decide) ?_
  refine lv_iload_n hx hb dX9_base_32 rfl (lv_at hl 2 rfl) ?_
  refine pg_Vi (As := [.int (3 : Int32), .int x1]) C hH mi_X8_has vl_X9_104 (q := (RX8, TX8, 8)) (ci := 8) rfl rfl hf (fun _ e1 => (oO_sp e1).1) (fun _ _ e1 => c_X8_has e1) rfl rfl hl.1 (Nat.le_of_ble_eq_true rfl) ⟨Nat.le_of_ble_eq_true rfl, Nat.le_of_ble_eq_true rfl⟩ ⟨Nat.zero_le _, Nat.zero_le _⟩ dX9_base_33 (fun H locs v33 h33 hH hf => ?_)
  refine lv_if_eq (tgt := 43) hx hb dX9_base_36 (by decide) (fun cn => ?_) (fun cn => ?_)
  · have hf := (if_pos cn).symm.trans hf
    refine lv_iconst (v := (-1 : Int32)) hx hb dX9_base_43 (by decide) ?_
    exact pg_iret C hr hH hf dX9_base_44
  · have hf := (if_neg cn).symm.trans hf
    refine lv_iload_n hx hb dX9_base_39 rfl (lv_at hl 0 rfl) ?_
    refine lv_if_ne (tgt := 45) hx hb dX9_base_40 (by decide) (fun cn => ?_) (fun cn => ?_)
    · have hf := (if_neg cn).symm.trans hf
      refine lv_aload_n hx hb dX9_base_45 rfl (lv_at hl 1 rfl) ?_
      refine pg_gR C hH fl_X9_53 hf dX9_base_46 (fun v46 hf => ?_)
      refine lv_iconst (v := (-1 : Int32)) hx hb dX9_base_49 (by decide) ?_
      refine pg_Vv (As := [.int (-1 : Int32)]) C hH mi_X1_look vl_X9_145 (q := (RX1, TX1, 11)) (ci := 1) rfl rfl hf (fun _ e1 => (oO_sp e1).1) (fun _ e1 => c_X1_look e1) rfl rfl hl.1 (Nat.le_of_ble_eq_true rfl) ⟨Nat.le_of_ble_eq_true rfl, Nat.le_of_ble_eq_true rfl⟩ ⟨Nat.zero_le _, Nat.zero_le _⟩ dX9_base_50 (fun H locs h50 hH hf => ?_)
      refine lv_aload_n hx hb dX9_base_53 rfl (lv_at hl 1 rfl) ?_
      refine pg_gR C hH fl_X9_53 hf dX9_base_54 (fun v54 hf => ?_)
      refine lv_iload_n hx hb dX9_base_57 rfl (lv_at hl 2 rfl) ?_
      refine lv_iload_n hx hb dX9_base_58 rfl (lv_at hl 3 rfl) ?_
      refine pg_Vv (As := [.int x1, .int x2]) C hH mi_X1_ask vl_X9_146 (q := (RX1, TX1, 11)) (ci := 1) rfl rfl hf (fun _ e1 => (oO_sp e1).1) (fun _ e1 => c_X1_ask e1) rfl rfl hl.1 (Nat.le_of_ble_eq_true rfl) ⟨Nat.le_of_ble_eq_true rfl, Nat.le_of_ble_eq_true rfl⟩ ⟨Nat.zero_le _, Nat.zero_le _⟩ dX9_base_59 (fun H locs h59 hH hf => ?_)
      refine lv_aload_n hx hb dX9_base_62 rfl (lv_at hl 1 rfl) ?_
      refine pg_gR C hH fl_X9_53 hf dX9_base_63 (fun v63 hf => ?_)
      refine pg_gI C hH fl_X9_150 hf dX9_base_66 (fun v66 hf => ?_)
      refine lv_if_ne (tgt := 82) hx hb dX9_base_69 (by decide) (fun cn => ?_) (fun cn => ?_)
      · have hf := (if_neg cn).symm.trans hf
        refine lv_bipush (v := (-2 : Int32)) hx hb dX9_base_82 (by decide) ?_
        refine lv_aload_n hx hb dX9_base_84 rfl (lv_at hl 1 rfl) ?_
        refine pg_gR C hH fl_X9_53 hf dX9_base_85 (fun v85 hf => ?_)
        refine pg_gI C hH fl_X9_150 hf dX9_base_88 (fun v88 hf => ?_)
        refine lv_isub hx hb dX9_base_91 ?_
        exact pg_iret C hr hH hf dX9_base_92
      · have hf := (if_pos cn).symm.trans hf
        refine lv_aload_n hx hb dX9_base_72 rfl (lv_at hl 1 rfl) ?_
        refine pg_gR C hH fl_X9_53 hf dX9_base_73 (fun v73 hf => ?_)
        refine pg_gI C hH fl_X9_157 hf dX9_base_76 (fun v76 hf => ?_)
        refine lv_goto (tgt := 92) hx hb dX9_base_79 (by decide) ?_
        exact pg_iret C hr hH hf dX9_base_92
    · have hf := (if_pos cn).symm.trans hf
      refine lv_iconst (v := (-1 : Int32)) hx hb dX9_base_43 (by decide) ?_
      exact pg_iret C hr hH hf dX9_base_44
set_option maxHeartbeats 4000000 in
set_option maxRecDepth 100000 in
theorem wX9_base_b21 {r : Int32} {h' : PH} (C : CT g RX9 cX9_base 4 (Cond.code yX9_base cX9_base 4 (some .int) :: TB) p s m args meth c) (hr : meth.sig.returnType = some .int) {h : PH} {a0 : Nat} {x1 : Int32} {x2 : Int32} {H : Heap} {locs : List Loc} {ls : Array Slot} (hH : HS g s H locs h) (hf : mX9_base_b21 h a0 x1 x2 = some (r, h')) (hl : lv_has ls 4 [(0, .ref (gB g + a0)), (1, .int x1), (2, .int x2)]) : W p l e (rmD 6 0 0) s m args below meth c H locs 0 0 (MQ below (QcI g r h') args s 0 0 (aB g)) (F0 m 21 ls []) := by
  obtain ⟨⟨hx, hb, hml, hown, hts⟩, htb, hlk, hkk, hbs⟩ := id C
  unfold mX9_base_b21 at hf
  refine lv_iconst (v := (1 : Int32)) hx hb dX9_base_21 (by decide) ?_
  refine lv_goto (tgt := 26) hx hb dX9_base_22 (by decide) ?_
  exact wX9_base_b26 C hr hH hf (lv_sub hl [0, 1, 2] rfl)
set_option maxHeartbeats 4000000 in
set_option maxRecDepth 100000 in
theorem c_X9_base {l : Launch} {g : GD} {h : PH} {a0 : Nat} {x1 : Int32} {x2 : Int32} {r : Int32} {h' : PH} (hf : mX9_base h a0 x1 x2 = some (r, h')) : Met l yX9_base (Cond.code yX9_base cX9_base 4 (some .int) :: TB) (rmD 6 0 0) (PcH g [.ref (gB g + a0), .int x1, .int x2] h) (QcI g r h') 0 0 (aB g) := by
  refine Met.ofW (cc := cX9_base) (maxL := 4) (ret := some .int) (by decide) rfl ?_
  intro p e s m args below meth c s₁ B hml hv
  obtain ⟨rfl, hH0, hkk0⟩ := hv
  have C : CT g RX9 cX9_base 4 (Cond.code yX9_base cX9_base 4 (some .int) :: TB) p s m _ meth c := pg_ct (Tw := []) B hml hH0 hkk0
  have hr := B.returns
  have hH : HS g s s.heap [] h := ⟨hH0, va_S.rf⟩
  have hl := lv_entry ([.ref (gB g + a0), .int x1, .int x2]) (n := 4) (Nat.le_of_ble_eq_true rfl)
  rw [lg_entry_eq]
  generalize (lg_sl ([.ref (gB g + a0), .int x1, .int x2]) ++ List.replicate (4 - (lg_sl ([.ref (gB g + a0), .int x1, .int x2])).length) Slot.unset).toArray = ls at hl ⊢
  have hl : lv_has ls 4 [(0, .ref (gB g + a0)), (1, .int x1), (2, .int x2)] := hl
  show W p l e (rmD 6 0 0) _ _ _ _ _ _ _ _ _ _ _ _
  unfold mX9_base at hf
  obtain ⟨hO, hf⟩ := oO_sp hf
  obtain ⟨⟨hx, hb, hml, hown, hts⟩, htb, hlk, hkk, hbs⟩ := id C
  refine lv_iload_n hx hb dX9_base_0 rfl (lv_at hl 2 rfl) ?_
  refine lv_iconst (v := (2 : Int32)) hx hb dX9_base_1 (by decide) ?_
  refine lv_icmp_eq (tgt := 21) hx hb dX9_base_2 (by decide) (fun cn => ?_) (fun cn => ?_)
  · have hf := (if_pos cn).symm.trans hf
    exact wX9_base_b21 C hr hH hf (lv_sub hl [0, 1, 2] rfl)
  · have hf := (if_neg cn).symm.trans hf
    refine lv_iload_n hx hb dX9_base_5 rfl (lv_at hl 2 rfl) ?_
    refine lv_iconst (v := (3 : Int32)) hx hb dX9_base_6 (by decide) ?_
    refine lv_icmp_eq (tgt := 21) hx hb dX9_base_7 (by decide) (fun cn => ?_) (fun cn => ?_)
    · have hf := (if_pos cn).symm.trans hf
      exact wX9_base_b21 C hr hH hf (lv_sub hl [0, 1, 2] rfl)
    · have hf := (if_neg cn).symm.trans hf
      refine lv_iload_n hx hb dX9_base_10 rfl (lv_at hl 2 rfl) ?_
      refine lv_iconst (v := (4 : Int32)) hx hb dX9_base_11 (by decide) ?_
      refine lv_icmp_eq (tgt := 21) hx hb dX9_base_12 (by decide) (fun cn => ?_) (fun cn => ?_)
      · have hf := (if_pos cn).symm.trans hf
        exact wX9_base_b21 C hr hH hf (lv_sub hl [0, 1, 2] rfl)
      · have hf := (if_neg cn).symm.trans hf
        refine lv_iload_n hx hb dX9_base_15 rfl (lv_at hl 2 rfl) ?_
        refine lv_bipush (v := (6 : Int32)) hx hb dX9_base_16 (by decide) ?_
        refine lv_icmp_ne (tgt := 25) hx hb dX9_base_18 (by decide) (fun cn => ?_) (fun cn => ?_)
        · have hf := (if_neg cn).symm.trans hf
          refine lv_iconst (v := (0 : Int32)) hx hb dX9_base_25 (by decide) ?_
          exact wX9_base_b26 C hr hH hf (lv_sub hl [0, 1, 2] rfl)
        · have hf := (if_pos cn).symm.trans hf
          exact wX9_base_b21 C hr hH hf (lv_sub hl [0, 1, 2] rfl)
set_option maxHeartbeats 4000000 in
set_option maxRecDepth 100000 in
theorem c_X9_isTurned {l : Launch} {g : GD} {h : PH} {a0 : Nat} {r : Int32} {h' : PH} (hf : mX9_isTurned h a0 = some (r, h')) : Met l yX9_isTurned (Cond.code yX9_isTurned cX9_isTurned 1 (some .boolean) :: TB) (rmD 0 0 0) (PcH g [.ref (gB g + a0)] h) (QcI g r h') 0 0 (aB g) := by
  refine Met.ofW (cc := cX9_isTurned) (maxL := 1) (ret := some .boolean) (by decide) rfl ?_
  intro p e s m args below meth c s₁ B hml hv
  obtain ⟨rfl, hH0, hkk0⟩ := hv
  have C : CT g RX9 cX9_isTurned 1 (Cond.code yX9_isTurned cX9_isTurned 1 (some .boolean) :: TB) p s m _ meth c := pg_ct (Tw := []) B hml hH0 hkk0
  have hr := B.returns
  have hH : HS g s s.heap [] h := ⟨hH0, va_S.rf⟩
  have hl := lv_entry ([.ref (gB g + a0)]) (n := 1) (Nat.le_of_ble_eq_true rfl)
  rw [lg_entry_eq]
  generalize (lg_sl ([.ref (gB g + a0)]) ++ List.replicate (1 - (lg_sl ([.ref (gB g + a0)])).length) Slot.unset).toArray = ls at hl ⊢
  have hl : lv_has ls 1 [(0, .ref (gB g + a0))] := hl
  show W p l e (rmD 0 0 0) _ _ _ _ _ _ _ _ _ _ _ _
  unfold mX9_isTurned at hf
  obtain ⟨hO, hf⟩ := oO_sp hf
  obtain ⟨⟨hx, hb, hml, hown, hts⟩, htb, hlk, hkk, hbs⟩ := id C
  refine lv_aload_n hx hb dX9_isTurned_0 rfl (lv_at hl 0 rfl) ?_
  refine pg_gR C hH fl_X9_19 hf dX9_isTurned_1 (fun v1 hf => ?_)
  refine pg_gR C hH fl_X9_100 hf dX9_isTurned_4 (fun v4 hf => ?_)
  refine lv_bipush (v := (10 : Int32)) hx hb dX9_isTurned_7 (by decide) ?_
  refine pg_aI C hH hf dX9_isTurned_9 (fun v9 hf => ?_)
  refine lv_iconst (v := (1 : Int32)) hx hb dX9_isTurned_10 (by decide) ?_
  refine lv_icmp_ne (tgt := 18) hx hb dX9_isTurned_11 (by decide) (fun cn => ?_) (fun cn => ?_)
  · have hf := (if_neg cn).symm.trans hf
    refine lv_iconst (v := (0 : Int32)) hx hb dX9_isTurned_18 (by decide) ?_
    exact pg_zret C hr hH hf dX9_isTurned_19
  · have hf := (if_pos cn).symm.trans hf
    refine lv_iconst (v := (1 : Int32)) hx hb dX9_isTurned_14 (by decide) ?_
    refine lv_goto (tgt := 19) hx hb dX9_isTurned_15 (by decide) ?_
    exact pg_zret C hr hH hf dX9_isTurned_19
set_option maxHeartbeats 4000000 in
set_option maxRecDepth 100000 in
theorem c_X9_worthInOrder {l : Launch} {g : GD} {h : PH} {a0 : Nat} {x1 : Int32} {x2 : Int32} {r : Int64} {h' : PH} (hf : mX9_worthInOrder h a0 x1 x2 = some (r, h')) : Met l yX9_worthInOrder (Cond.code yX9_worthInOrder cX9_worthInOrder 3 (some .long) :: TB) (rmD 6 0 0) (PcH g [.ref (gB g + a0), .int x1, .int x2] h) (QcL g r h') 0 0 (aB g) := by
  refine Met.ofW (cc := cX9_worthInOrder) (maxL := 3) (ret := some .long) (by decide) rfl ?_
  intro p e s m args below meth c s₁ B hml hv
  obtain ⟨rfl, hH0, hkk0⟩ := hv
  have C : CT g RX9 cX9_worthInOrder 3 (Cond.code yX9_worthInOrder cX9_worthInOrder 3 (some .long) :: TB) p s m _ meth c := pg_ct (Tw := []) B hml hH0 hkk0
  have hr := B.returns
  have hH : HS g s s.heap [] h := ⟨hH0, va_S.rf⟩
  have hl := lv_entry ([.ref (gB g + a0), .int x1, .int x2]) (n := 3) (Nat.le_of_ble_eq_true rfl)
  rw [lg_entry_eq]
  generalize (lg_sl ([.ref (gB g + a0), .int x1, .int x2]) ++ List.replicate (3 - (lg_sl ([.ref (gB g + a0), .int x1, .int x2])).length) Slot.unset).toArray = ls at hl ⊢
  have hl : lv_has ls 3 [(0, .ref (gB g + a0)), (1, .int x1), (2, .int x2)] := hl
  show W p l e (rmD 6 0 0) _ _ _ _ _ _ _ _ _ _ _ _
  unfold mX9_worthInOrder at hf
  obtain ⟨hO, hf⟩ := oO_sp hf
  obtain ⟨⟨hx, hb, hml, hown, hts⟩, htb, hlk, hkk, hbs⟩ := id C
  refine lv_aload_n hx hb dX9_worthInOrder_0 rfl (lv_at hl 0 rfl) ?_
  refine pg_gR C hH fl_X9_19 hf dX9_worthInOrder_1 (fun v1 hf => ?_)
  refine lv_iconst (v := (3 : Int32)) hx hb dX9_worthInOrder_4 (by decide) ?_
  refine lv_iload_n hx hb dX9_worthInOrder_5 rfl (lv_at hl 1 rfl) ?_
  refine pg_Vi (As := [.int (3 : Int32), .int x1]) C hH mi_X8_has vl_X9_104 (q := (RX8, TX8, 8)) (ci := 8) rfl rfl hf (fun _ e1 => (oO_sp e1).1) (fun _ _ e1 => c_X8_has e1) rfl rfl hl.1 (Nat.le_of_ble_eq_true rfl) ⟨Nat.le_of_ble_eq_true rfl, Nat.le_of_ble_eq_true rfl⟩ ⟨Nat.zero_le _, Nat.zero_le _⟩ dX9_worthInOrder_6 (fun H locs v6 h6 hH hf => ?_)
  refine lv_if_ne (tgt := 16) hx hb dX9_worthInOrder_9 (by decide) (fun cn => ?_) (fun cn => ?_)
  · have hf := (if_neg cn).symm.trans hf
    refine lv_aload_n hx hb dX9_worthInOrder_16 rfl (lv_at hl 0 rfl) ?_
    refine pg_gR C hH fl_X9_53 hf dX9_worthInOrder_17 (fun v17 hf => ?_)
    refine lv_iconst (v := (-1 : Int32)) hx hb dX9_worthInOrder_20 (by decide) ?_
    refine pg_Vv (As := [.int (-1 : Int32)]) C hH mi_X1_look vl_X9_145 (q := (RX1, TX1, 11)) (ci := 1) rfl rfl hf (fun _ e1 => (oO_sp e1).1) (fun _ e1 => c_X1_look e1) rfl rfl hl.1 (Nat.le_of_ble_eq_true rfl) ⟨Nat.le_of_ble_eq_true rfl, Nat.le_of_ble_eq_true rfl⟩ ⟨Nat.zero_le _, Nat.zero_le _⟩ dX9_worthInOrder_21 (fun H locs h21 hH hf => ?_)
    refine lv_aload_n hx hb dX9_worthInOrder_24 rfl (lv_at hl 0 rfl) ?_
    refine pg_gR C hH fl_X9_53 hf dX9_worthInOrder_25 (fun v25 hf => ?_)
    refine lv_iload_n hx hb dX9_worthInOrder_28 rfl (lv_at hl 1 rfl) ?_
    refine lv_iload_n hx hb dX9_worthInOrder_29 rfl (lv_at hl 2 rfl) ?_
    refine pg_Vv (As := [.int x1, .int x2]) C hH mi_X1_climb vl_X9_168 (q := (RX1, TX1, 11)) (ci := 1) rfl rfl hf (fun _ e1 => (oO_sp e1).1) (fun _ e1 => c_X1_climb e1) rfl rfl hl.1 (Nat.le_of_ble_eq_true rfl) ⟨Nat.le_of_ble_eq_true rfl, Nat.le_of_ble_eq_true rfl⟩ ⟨Nat.zero_le _, Nat.zero_le _⟩ dX9_worthInOrder_30 (fun H locs h30 hH hf => ?_)
    refine lv_aload_n hx hb dX9_worthInOrder_33 rfl (lv_at hl 0 rfl) ?_
    refine pg_gR C hH fl_X9_53 hf dX9_worthInOrder_34 (fun v34 hf => ?_)
    refine pg_Vl (As := []) C hH mi_X1_answer vl_X9_212 (q := (RX1, TX1, 11)) (ci := 1) rfl rfl hf (fun _ e1 => (oO_sp e1).1) (fun _ _ e1 => c_X1_answer e1) rfl rfl hl.1 (Nat.le_of_ble_eq_true rfl) ⟨Nat.le_of_ble_eq_true rfl, Nat.le_of_ble_eq_true rfl⟩ ⟨Nat.zero_le _, Nat.zero_le _⟩ dX9_worthInOrder_37 (fun H locs v37 h37 hH hf => ?_)
    exact pg_lret C hr hH hf dX9_worthInOrder_40
  · have hf := (if_pos cn).symm.trans hf
    refine lv_ldc2 (v := (-1 : Int64)) hx hb hown (hts _ (htb _ kl_X9_139)) dX9_worthInOrder_12 ?_
    exact pg_lret C hr hH hf dX9_worthInOrder_15
set_option maxHeartbeats 4000000 in
set_option maxRecDepth 100000 in
theorem c_X9_worth {l : Launch} {g : GD} {h : PH} {a0 : Nat} {x1 : Int32} {r : Int64} {h' : PH} (hf : mX9_worth h a0 x1 = some (r, h')) : Met l yX9_worth (Cond.code yX9_worth cX9_worth 2 (some .long) :: TB) (rmD 7 0 0) (PcH g [.ref (gB g + a0), .int x1] h) (QcL g r h') 0 0 (aB g) := by
  refine Met.ofW (cc := cX9_worth) (maxL := 2) (ret := some .long) (by decide) rfl ?_
  intro p e s m args below meth c s₁ B hml hv
  obtain ⟨rfl, hH0, hkk0⟩ := hv
  have C : CT g RX9 cX9_worth 2 (Cond.code yX9_worth cX9_worth 2 (some .long) :: TB) p s m _ meth c := pg_ct (Tw := []) B hml hH0 hkk0
  have hr := B.returns
  have hH : HS g s s.heap [] h := ⟨hH0, va_S.rf⟩
  have hl := lv_entry ([.ref (gB g + a0), .int x1]) (n := 2) (Nat.le_of_ble_eq_true rfl)
  rw [lg_entry_eq]
  generalize (lg_sl ([.ref (gB g + a0), .int x1]) ++ List.replicate (2 - (lg_sl ([.ref (gB g + a0), .int x1])).length) Slot.unset).toArray = ls at hl ⊢
  have hl : lv_has ls 2 [(0, .ref (gB g + a0)), (1, .int x1)] := hl
  show W p l e (rmD 7 0 0) _ _ _ _ _ _ _ _ _ _ _ _
  unfold mX9_worth at hf
  obtain ⟨hO, hf⟩ := oO_sp hf
  obtain ⟨⟨hx, hb, hml, hown, hts⟩, htb, hlk, hkk, hbs⟩ := id C
  refine lv_aload_n hx hb dX9_worth_0 rfl (lv_at hl 0 rfl) ?_
  refine lv_iload_n hx hb dX9_worth_1 rfl (lv_at hl 1 rfl) ?_
  refine lv_aload_n hx hb dX9_worth_2 rfl (lv_at hl 0 rfl) ?_
  refine pg_Vi (As := []) C hH mi_X9_isTurned vl_X9_160 (q := (RX9, TX9, 11)) (ci := 9) rfl rfl hf (fun _ e1 => (oO_sp e1).1) (fun _ _ e1 => c_X9_isTurned e1) rfl rfl hl.1 (Nat.le_of_ble_eq_true rfl) ⟨Nat.le_of_ble_eq_true rfl, Nat.le_of_ble_eq_true rfl⟩ ⟨Nat.zero_le _, Nat.zero_le _⟩ dX9_worth_3 (fun H locs v3 h3 hH hf => ?_)
  refine pg_Vl (As := [.int x1, .int v3]) C hH mi_X9_worthInOrder vl_X9_164 (q := (RX9, TX9, 11)) (ci := 9) rfl rfl hf (fun _ e1 => (oO_sp e1).1) (fun _ _ e1 => c_X9_worthInOrder e1) rfl rfl hl.1 (Nat.le_of_ble_eq_true rfl) ⟨Nat.le_of_ble_eq_true rfl, Nat.le_of_ble_eq_true rfl⟩ ⟨Nat.zero_le _, Nat.zero_le _⟩ dX9_worth_6 (fun H locs v6 h6 hH hf => ?_)
  exact pg_lret C hr hH hf dX9_worth_9
set_option maxHeartbeats 4000000 in
set_option maxRecDepth 100000 in
theorem c_X9_method {l : Launch} {g : GD} {h : PH} {a0 : Nat} {x1 : Int32} {r : Int32} {h' : PH} (hf : mX9_method h a0 x1 = some (r, h')) : Met l yX9_method (Cond.code yX9_method cX9_method 2 (some .int) :: TB) (rmD 6 0 0) (PcH g [.ref (gB g + a0), .int x1] h) (QcI g r h') 0 0 (aB g) := by
  refine Met.ofW (cc := cX9_method) (maxL := 2) (ret := some .int) (by decide) rfl ?_
  intro p e s m args below meth c s₁ B hml hv
  obtain ⟨rfl, hH0, hkk0⟩ := hv
  have C : CT g RX9 cX9_method 2 (Cond.code yX9_method cX9_method 2 (some .int) :: TB) p s m _ meth c := pg_ct (Tw := []) B hml hH0 hkk0
  have hr := B.returns
  have hH : HS g s s.heap [] h := ⟨hH0, va_S.rf⟩
  have hl := lv_entry ([.ref (gB g + a0), .int x1]) (n := 2) (Nat.le_of_ble_eq_true rfl)
  rw [lg_entry_eq]
  generalize (lg_sl ([.ref (gB g + a0), .int x1]) ++ List.replicate (2 - (lg_sl ([.ref (gB g + a0), .int x1])).length) Slot.unset).toArray = ls at hl ⊢
  have hl : lv_has ls 2 [(0, .ref (gB g + a0)), (1, .int x1)] := hl
  show W p l e (rmD 6 0 0) _ _ _ _ _ _ _ _ _ _ _ _
  unfold mX9_method at hf
  obtain ⟨hO, hf⟩ := oO_sp hf
  obtain ⟨⟨hx, hb, hml, hown, hts⟩, htb, hlk, hkk, hbs⟩ := id C
  refine lv_aload_n hx hb dX9_method_0 rfl (lv_at hl 0 rfl) ?_
  refine pg_gR C hH fl_X9_19 hf dX9_method_1 (fun v1 hf => ?_)
  refine lv_iconst (v := (3 : Int32)) hx hb dX9_method_4 (by decide) ?_
  refine lv_iload_n hx hb dX9_method_5 rfl (lv_at hl 1 rfl) ?_
  refine pg_Vi (As := [.int (3 : Int32), .int x1]) C hH mi_X8_has vl_X9_104 (q := (RX8, TX8, 8)) (ci := 8) rfl rfl hf (fun _ e1 => (oO_sp e1).1) (fun _ _ e1 => c_X8_has e1) rfl rfl hl.1 (Nat.le_of_ble_eq_true rfl) ⟨Nat.le_of_ble_eq_true rfl, Nat.le_of_ble_eq_true rfl⟩ ⟨Nat.zero_le _, Nat.zero_le _⟩ dX9_method_6 (fun H locs v6 h6 hH hf => ?_)
  refine lv_if_ne (tgt := 14) hx hb dX9_method_9 (by decide) (fun cn => ?_) (fun cn => ?_)
  · have hf := (if_neg cn).symm.trans hf
    refine lv_aload_n hx hb dX9_method_14 rfl (lv_at hl 0 rfl) ?_
    refine pg_gR C hH fl_X9_53 hf dX9_method_15 (fun v15 hf => ?_)
    refine lv_iconst (v := (-1 : Int32)) hx hb dX9_method_18 (by decide) ?_
    refine pg_Vv (As := [.int (-1 : Int32)]) C hH mi_X1_look vl_X9_145 (q := (RX1, TX1, 11)) (ci := 1) rfl rfl hf (fun _ e1 => (oO_sp e1).1) (fun _ e1 => c_X1_look e1) rfl rfl hl.1 (Nat.le_of_ble_eq_true rfl) ⟨Nat.le_of_ble_eq_true rfl, Nat.le_of_ble_eq_true rfl⟩ ⟨Nat.zero_le _, Nat.zero_le _⟩ dX9_method_19 (fun H locs h19 hH hf => ?_)
    refine lv_aload_n hx hb dX9_method_22 rfl (lv_at hl 0 rfl) ?_
    refine pg_gR C hH fl_X9_53 hf dX9_method_23 (fun v23 hf => ?_)
    refine lv_iload_n hx hb dX9_method_26 rfl (lv_at hl 1 rfl) ?_
    refine lv_aload_n hx hb dX9_method_27 rfl (lv_at hl 0 rfl) ?_
    refine pg_Vi (As := []) C hH mi_X9_isTurned vl_X9_160 (q := (RX9, TX9, 11)) (ci := 9) rfl rfl hf (fun _ e1 => (oO_sp e1).1) (fun _ _ e1 => c_X9_isTurned e1) rfl rfl hl.1 (Nat.le_of_ble_eq_true rfl) ⟨Nat.le_of_ble_eq_true rfl, Nat.le_of_ble_eq_true rfl⟩ ⟨Nat.zero_le _, Nat.zero_le _⟩ dX9_method_28 (fun H locs v28 h28 hH hf => ?_)
    refine pg_Vv (As := [.int x1, .int v28]) C hH mi_X1_climb vl_X9_168 (q := (RX1, TX1, 11)) (ci := 1) rfl rfl hf (fun _ e1 => (oO_sp e1).1) (fun _ e1 => c_X1_climb e1) rfl rfl hl.1 (Nat.le_of_ble_eq_true rfl) ⟨Nat.le_of_ble_eq_true rfl, Nat.le_of_ble_eq_true rfl⟩ ⟨Nat.zero_le _, Nat.zero_le _⟩ dX9_method_31 (fun H locs h31 hH hf => ?_)
    refine lv_aload_n hx hb dX9_method_34 rfl (lv_at hl 0 rfl) ?_
    refine pg_gR C hH fl_X9_53 hf dX9_method_35 (fun v35 hf => ?_)
    refine pg_gI C hH fl_X9_172 hf dX9_method_38 (fun v38 hf => ?_)
    refine lv_if_ne (tgt := 49) hx hb dX9_method_41 (by decide) (fun cn => ?_) (fun cn => ?_)
    · have hf := (if_neg cn).symm.trans hf
      refine lv_aload_n hx hb dX9_method_49 rfl (lv_at hl 0 rfl) ?_
      refine pg_gR C hH fl_X9_53 hf dX9_method_50 (fun v50 hf => ?_)
      refine pg_gI C hH fl_X9_172 hf dX9_method_53 (fun v53 hf => ?_)
      exact pg_iret C hr hH hf dX9_method_56
    · have hf := (if_pos cn).symm.trans hf
      refine lv_bipush (v := (-2 : Int32)) hx hb dX9_method_44 (by decide) ?_
      refine lv_goto (tgt := 56) hx hb dX9_method_46 (by decide) ?_
      exact pg_iret C hr hH hf dX9_method_56
  · have hf := (if_pos cn).symm.trans hf
    refine lv_iconst (v := (-1 : Int32)) hx hb dX9_method_12 (by decide) ?_
    exact pg_iret C hr hH hf dX9_method_13
set_option maxHeartbeats 4000000 in
set_option maxRecDepth 100000 in
theorem c_X9_why {l : Launch} {g : GD} {h : PH} {a0 : Nat} {x1 : Int32} {x2 : Int32} {r : Int32} {h' : PH} (hf : mX9_why h a0 x1 x2 = some (r, h')) : Met l yX9_why (Cond.code yX9_why cX9_why 3 (some .int) :: TB) (rmD 6 0 0) (PcH g [.ref (gB g + a0), .int x1, .int x2] h) (QcI g r h') 0 0 (aB g) := by
  refine Met.ofW (cc := cX9_why) (maxL := 3) (ret := some .int) (by decide) rfl ?_
  intro p e s m args below meth c s₁ B hml hv
  obtain ⟨rfl, hH0, hkk0⟩ := hv
  have C : CT g RX9 cX9_why 3 (Cond.code yX9_why cX9_why 3 (some .int) :: TB) p s m _ meth c := pg_ct (Tw := []) B hml hH0 hkk0
  have hr := B.returns
  have hH : HS g s s.heap [] h := ⟨hH0, va_S.rf⟩
  have hl := lv_entry ([.ref (gB g + a0), .int x1, .int x2]) (n := 3) (Nat.le_of_ble_eq_true rfl)
  rw [lg_entry_eq]
  generalize (lg_sl ([.ref (gB g + a0), .int x1, .int x2]) ++ List.replicate (3 - (lg_sl ([.ref (gB g + a0), .int x1, .int x2])).length) Slot.unset).toArray = ls at hl ⊢
  have hl : lv_has ls 3 [(0, .ref (gB g + a0)), (1, .int x1), (2, .int x2)] := hl
  show W p l e (rmD 6 0 0) _ _ _ _ _ _ _ _ _ _ _ _
  unfold mX9_why at hf
  obtain ⟨hO, hf⟩ := oO_sp hf
  obtain ⟨⟨hx, hb, hml, hown, hts⟩, htb, hlk, hkk, hbs⟩ := id C
  refine lv_aload_n hx hb dX9_why_0 rfl (lv_at hl 0 rfl) ?_
  refine pg_gR C hH fl_X9_19 hf dX9_why_1 (fun v1 hf => ?_)
  refine lv_iconst (v := (3 : Int32)) hx hb dX9_why_4 (by decide) ?_
  refine lv_iload_n hx hb dX9_why_5 rfl (lv_at hl 1 rfl) ?_
  refine pg_Vi (As := [.int (3 : Int32), .int x1]) C hH mi_X8_has vl_X9_104 (q := (RX8, TX8, 8)) (ci := 8) rfl rfl hf (fun _ e1 => (oO_sp e1).1) (fun _ _ e1 => c_X8_has e1) rfl rfl hl.1 (Nat.le_of_ble_eq_true rfl) ⟨Nat.le_of_ble_eq_true rfl, Nat.le_of_ble_eq_true rfl⟩ ⟨Nat.zero_le _, Nat.zero_le _⟩ dX9_why_6 (fun H locs v6 h6 hH hf => ?_)
  refine lv_if_eq (tgt := 17) hx hb dX9_why_9 (by decide) (fun cn => ?_) (fun cn => ?_)
  · have hf := (if_pos cn).symm.trans hf
    refine lv_iconst (v := (-1 : Int32)) hx hb dX9_why_17 (by decide) ?_
    exact pg_iret C hr hH hf dX9_why_18
  · have hf := (if_neg cn).symm.trans hf
    refine lv_iload_n hx hb dX9_why_12 rfl (lv_at hl 2 rfl) ?_
    refine lv_iconst (v := (-1 : Int32)) hx hb dX9_why_13 (by decide) ?_
    refine lv_icmp_ge (tgt := 19) hx hb dX9_why_14 (by decide) (fun cn => ?_) (fun cn => ?_)
    · have hf := (if_pos cn).symm.trans hf
      refine lv_aload_n hx hb dX9_why_19 rfl (lv_at hl 0 rfl) ?_
      refine pg_gR C hH fl_X9_53 hf dX9_why_20 (fun v20 hf => ?_)
      refine lv_iconst (v := (-1 : Int32)) hx hb dX9_why_23 (by decide) ?_
      refine pg_Vv (As := [.int (-1 : Int32)]) C hH mi_X1_look vl_X9_145 (q := (RX1, TX1, 11)) (ci := 1) rfl rfl hf (fun _ e1 => (oO_sp e1).1) (fun _ e1 => c_X1_look e1) rfl rfl hl.1 (Nat.le_of_ble_eq_true rfl) ⟨Nat.le_of_ble_eq_true rfl, Nat.le_of_ble_eq_true rfl⟩ ⟨Nat.zero_le _, Nat.zero_le _⟩ dX9_why_24 (fun H locs h24 hH hf => ?_)
      refine lv_aload_n hx hb dX9_why_27 rfl (lv_at hl 0 rfl) ?_
      refine pg_gR C hH fl_X9_53 hf dX9_why_28 (fun v28 hf => ?_)
      refine lv_iload_n hx hb dX9_why_31 rfl (lv_at hl 1 rfl) ?_
      refine lv_aload_n hx hb dX9_why_32 rfl (lv_at hl 0 rfl) ?_
      refine pg_Vi (As := []) C hH mi_X9_isTurned vl_X9_160 (q := (RX9, TX9, 11)) (ci := 9) rfl rfl hf (fun _ e1 => (oO_sp e1).1) (fun _ _ e1 => c_X9_isTurned e1) rfl rfl hl.1 (Nat.le_of_ble_eq_true rfl) ⟨Nat.le_of_ble_eq_true rfl, Nat.le_of_ble_eq_true rfl⟩ ⟨Nat.zero_le _, Nat.zero_le _⟩ dX9_why_33 (fun H locs v33 h33 hH hf => ?_)
      refine pg_Vv (As := [.int x1, .int v33]) C hH mi_X1_climb vl_X9_168 (q := (RX1, TX1, 11)) (ci := 1) rfl rfl hf (fun _ e1 => (oO_sp e1).1) (fun _ e1 => c_X1_climb e1) rfl rfl hl.1 (Nat.le_of_ble_eq_true rfl) ⟨Nat.le_of_ble_eq_true rfl, Nat.le_of_ble_eq_true rfl⟩ ⟨Nat.zero_le _, Nat.zero_le _⟩ dX9_why_36 (fun H locs h36 hH hf => ?_)
      refine lv_iload_n hx hb dX9_why_39 rfl (lv_at hl 2 rfl) ?_
      refine lv_iconst (v := (-1 : Int32)) hx hb dX9_why_40 (by decide) ?_
      refine lv_icmp_ne (tgt := 52) hx hb dX9_why_41 (by decide) (fun cn => ?_) (fun cn => ?_)
      · have hf := (if_neg cn).symm.trans hf
        refine lv_iload_n hx hb dX9_why_52 rfl (lv_at hl 2 rfl) ?_
        refine lv_aload_n hx hb dX9_why_53 rfl (lv_at hl 0 rfl) ?_
        refine pg_gR C hH fl_X9_53 hf dX9_why_54 (fun v54 hf => ?_)
        refine pg_gI C hH fl_X9_175 hf dX9_why_57 (fun v57 hf => ?_)
        refine lv_icmp_ge (tgt := 75) hx hb dX9_why_60 (by decide) (fun cn => ?_) (fun cn => ?_)
        · have hf := (if_pos cn).symm.trans hf
          refine lv_bipush (v := (-2 : Int32)) hx hb dX9_why_75 (by decide) ?_
          exact pg_iret C hr hH hf dX9_why_77
        · have hf := (if_neg cn).symm.trans hf
          refine lv_aload_n hx hb dX9_why_63 rfl (lv_at hl 0 rfl) ?_
          refine pg_gR C hH fl_X9_53 hf dX9_why_64 (fun v64 hf => ?_)
          refine pg_gR C hH fl_X9_178 hf dX9_why_67 (fun v67 hf => ?_)
          refine lv_iload_n hx hb dX9_why_70 rfl (lv_at hl 2 rfl) ?_
          refine pg_aI C hH hf dX9_why_71 (fun v71 hf => ?_)
          refine lv_goto (tgt := 77) hx hb dX9_why_72 (by decide) ?_
          exact pg_iret C hr hH hf dX9_why_77
      · have hf := (if_pos cn).symm.trans hf
        refine lv_aload_n hx hb dX9_why_44 rfl (lv_at hl 0 rfl) ?_
        refine pg_gR C hH fl_X9_53 hf dX9_why_45 (fun v45 hf => ?_)
        refine pg_gI C hH fl_X9_175 hf dX9_why_48 (fun v48 hf => ?_)
        exact pg_iret C hr hH hf dX9_why_51
    · have hf := (if_neg cn).symm.trans hf
      refine lv_iconst (v := (-1 : Int32)) hx hb dX9_why_17 (by decide) ?_
      exact pg_iret C hr hH hf dX9_why_18
set_option maxHeartbeats 4000000 in
set_option maxRecDepth 100000 in
theorem c_X9_test {l : Launch} {g : GD} {h : PH} {a0 : Nat} {x1 : Int32} {x2 : Int32} {r : Int64} {h' : PH} (hf : mX9_test h a0 x1 x2 = some (r, h')) : Met l yX9_test (Cond.code yX9_test cX9_test 3 (some .long) :: TB) (rmD 6 0 0) (PcH g [.ref (gB g + a0), .int x1, .int x2] h) (QcL g r h') 0 0 (aB g) := by
  refine Met.ofW (cc := cX9_test) (maxL := 3) (ret := some .long) (by decide) rfl ?_
  intro p e s m args below meth c s₁ B hml hv
  obtain ⟨rfl, hH0, hkk0⟩ := hv
  have C : CT g RX9 cX9_test 3 (Cond.code yX9_test cX9_test 3 (some .long) :: TB) p s m _ meth c := pg_ct (Tw := []) B hml hH0 hkk0
  have hr := B.returns
  have hH : HS g s s.heap [] h := ⟨hH0, va_S.rf⟩
  have hl := lv_entry ([.ref (gB g + a0), .int x1, .int x2]) (n := 3) (Nat.le_of_ble_eq_true rfl)
  rw [lg_entry_eq]
  generalize (lg_sl ([.ref (gB g + a0), .int x1, .int x2]) ++ List.replicate (3 - (lg_sl ([.ref (gB g + a0), .int x1, .int x2])).length) Slot.unset).toArray = ls at hl ⊢
  have hl : lv_has ls 3 [(0, .ref (gB g + a0)), (1, .int x1), (2, .int x2)] := hl
  show W p l e (rmD 6 0 0) _ _ _ _ _ _ _ _ _ _ _ _
  unfold mX9_test at hf
  obtain ⟨hO, hf⟩ := oO_sp hf
  obtain ⟨⟨hx, hb, hml, hown, hts⟩, htb, hlk, hkk, hbs⟩ := id C
  refine lv_aload_n hx hb dX9_test_0 rfl (lv_at hl 0 rfl) ?_
  refine pg_gR C hH fl_X9_19 hf dX9_test_1 (fun v1 hf => ?_)
  refine lv_iconst (v := (3 : Int32)) hx hb dX9_test_4 (by decide) ?_
  refine lv_iload_n hx hb dX9_test_5 rfl (lv_at hl 1 rfl) ?_
  refine pg_Vi (As := [.int (3 : Int32), .int x1]) C hH mi_X8_has vl_X9_104 (q := (RX8, TX8, 8)) (ci := 8) rfl rfl hf (fun _ e1 => (oO_sp e1).1) (fun _ _ e1 => c_X8_has e1) rfl rfl hl.1 (Nat.le_of_ble_eq_true rfl) ⟨Nat.le_of_ble_eq_true rfl, Nat.le_of_ble_eq_true rfl⟩ ⟨Nat.zero_le _, Nat.zero_le _⟩ dX9_test_6 (fun H locs v6 h6 hH hf => ?_)
  refine lv_if_eq (tgt := 17) hx hb dX9_test_9 (by decide) (fun cn => ?_) (fun cn => ?_)
  · have hf := (if_pos cn).symm.trans hf
    refine lv_ldc2 (v := (-1 : Int64)) hx hb hown (hts _ (htb _ kl_X9_139)) dX9_test_17 ?_
    exact pg_lret C hr hH hf dX9_test_20
  · have hf := (if_neg cn).symm.trans hf
    refine lv_iload_n hx hb dX9_test_12 rfl (lv_at hl 2 rfl) ?_
    refine lv_iconst (v := (-1 : Int32)) hx hb dX9_test_13 (by decide) ?_
    refine lv_icmp_ge (tgt := 21) hx hb dX9_test_14 (by decide) (fun cn => ?_) (fun cn => ?_)
    · have hf := (if_pos cn).symm.trans hf
      refine lv_aload_n hx hb dX9_test_21 rfl (lv_at hl 0 rfl) ?_
      refine pg_gR C hH fl_X9_53 hf dX9_test_22 (fun v22 hf => ?_)
      refine lv_iconst (v := (-1 : Int32)) hx hb dX9_test_25 (by decide) ?_
      refine pg_Vv (As := [.int (-1 : Int32)]) C hH mi_X1_look vl_X9_145 (q := (RX1, TX1, 11)) (ci := 1) rfl rfl hf (fun _ e1 => (oO_sp e1).1) (fun _ e1 => c_X1_look e1) rfl rfl hl.1 (Nat.le_of_ble_eq_true rfl) ⟨Nat.le_of_ble_eq_true rfl, Nat.le_of_ble_eq_true rfl⟩ ⟨Nat.zero_le _, Nat.zero_le _⟩ dX9_test_26 (fun H locs h26 hH hf => ?_)
      refine lv_aload_n hx hb dX9_test_29 rfl (lv_at hl 0 rfl) ?_
      refine pg_gR C hH fl_X9_53 hf dX9_test_30 (fun v30 hf => ?_)
      refine lv_iload_n hx hb dX9_test_33 rfl (lv_at hl 1 rfl) ?_
      refine pg_Vv (As := [.int x1]) C hH mi_X1_gatherTests vl_X9_181 (q := (RX1, TX1, 11)) (ci := 1) rfl rfl hf (fun _ e1 => (oO_sp e1).1) (fun _ e1 => c_X1_gatherTests e1) rfl rfl hl.1 (Nat.le_of_ble_eq_true rfl) ⟨Nat.le_of_ble_eq_true rfl, Nat.le_of_ble_eq_true rfl⟩ ⟨Nat.zero_le _, Nat.zero_le _⟩ dX9_test_34 (fun H locs h34 hH hf => ?_)
      refine lv_iload_n hx hb dX9_test_37 rfl (lv_at hl 2 rfl) ?_
      refine lv_iconst (v := (-1 : Int32)) hx hb dX9_test_38 (by decide) ?_
      refine lv_icmp_ne (tgt := 51) hx hb dX9_test_39 (by decide) (fun cn => ?_) (fun cn => ?_)
      · have hf := (if_neg cn).symm.trans hf
        refine lv_iload_n hx hb dX9_test_51 rfl (lv_at hl 2 rfl) ?_
        refine lv_aload_n hx hb dX9_test_52 rfl (lv_at hl 0 rfl) ?_
        refine pg_gR C hH fl_X9_53 hf dX9_test_53 (fun v53 hf => ?_)
        refine pg_gI C hH fl_X9_184 hf dX9_test_56 (fun v56 hf => ?_)
        refine lv_icmp_ge (tgt := 74) hx hb dX9_test_59 (by decide) (fun cn => ?_) (fun cn => ?_)
        · have hf := (if_pos cn).symm.trans hf
          refine lv_ldc2 (v := (-2 : Int64)) hx hb hown (hts _ (htb _ kl_X9_190)) dX9_test_74 ?_
          exact pg_lret C hr hH hf dX9_test_77
        · have hf := (if_neg cn).symm.trans hf
          refine lv_aload_n hx hb dX9_test_62 rfl (lv_at hl 0 rfl) ?_
          refine pg_gR C hH fl_X9_53 hf dX9_test_63 (fun v63 hf => ?_)
          refine pg_gR C hH fl_X9_187 hf dX9_test_66 (fun v66 hf => ?_)
          refine lv_iload_n hx hb dX9_test_69 rfl (lv_at hl 2 rfl) ?_
          refine pg_aL C hH hf dX9_test_70 (fun v70 hf => ?_)
          refine lv_goto (tgt := 77) hx hb dX9_test_71 (by decide) ?_
          exact pg_lret C hr hH hf dX9_test_77
      · have hf := (if_pos cn).symm.trans hf
        refine lv_aload_n hx hb dX9_test_42 rfl (lv_at hl 0 rfl) ?_
        refine pg_gR C hH fl_X9_53 hf dX9_test_43 (fun v43 hf => ?_)
        refine pg_gI C hH fl_X9_184 hf dX9_test_46 (fun v46 hf => ?_)
        refine lv_i2l (v := (Int32.toInt64 v46)) hx hb dX9_test_49 rfl ?_
        exact pg_lret C hr hH hf dX9_test_50
    · have hf := (if_neg cn).symm.trans hf
      refine lv_ldc2 (v := (-1 : Int64)) hx hb hown (hts _ (htb _ kl_X9_139)) dX9_test_17 ?_
      exact pg_lret C hr hH hf dX9_test_20
set_option maxHeartbeats 4000000 in
set_option maxRecDepth 100000 in
theorem c_X9_passes {l : Launch} {g : GD} {h : PH} {a0 : Nat} {x1 : Int32} {r : Int32} {h' : PH} (hf : mX9_passes h a0 x1 = some (r, h')) : Met l yX9_passes (Cond.code yX9_passes cX9_passes 2 (some .int) :: TB) (rmD 6 0 0) (PcH g [.ref (gB g + a0), .int x1] h) (QcI g r h') 0 0 (aB g) := by
  refine Met.ofW (cc := cX9_passes) (maxL := 2) (ret := some .int) (by decide) rfl ?_
  intro p e s m args below meth c s₁ B hml hv
  obtain ⟨rfl, hH0, hkk0⟩ := hv
  have C : CT g RX9 cX9_passes 2 (Cond.code yX9_passes cX9_passes 2 (some .int) :: TB) p s m _ meth c := pg_ct (Tw := []) B hml hH0 hkk0
  have hr := B.returns
  have hH : HS g s s.heap [] h := ⟨hH0, va_S.rf⟩
  have hl := lv_entry ([.ref (gB g + a0), .int x1]) (n := 2) (Nat.le_of_ble_eq_true rfl)
  rw [lg_entry_eq]
  generalize (lg_sl ([.ref (gB g + a0), .int x1]) ++ List.replicate (2 - (lg_sl ([.ref (gB g + a0), .int x1])).length) Slot.unset).toArray = ls at hl ⊢
  have hl : lv_has ls 2 [(0, .ref (gB g + a0)), (1, .int x1)] := hl
  show W p l e (rmD 6 0 0) _ _ _ _ _ _ _ _ _ _ _ _
  unfold mX9_passes at hf
  obtain ⟨hO, hf⟩ := oO_sp hf
  obtain ⟨⟨hx, hb, hml, hown, hts⟩, htb, hlk, hkk, hbs⟩ := id C
  refine lv_aload_n hx hb dX9_passes_0 rfl (lv_at hl 0 rfl) ?_
  refine pg_gR C hH fl_X9_19 hf dX9_passes_1 (fun v1 hf => ?_)
  refine lv_iconst (v := (3 : Int32)) hx hb dX9_passes_4 (by decide) ?_
  refine lv_iload_n hx hb dX9_passes_5 rfl (lv_at hl 1 rfl) ?_
  refine pg_Vi (As := [.int (3 : Int32), .int x1]) C hH mi_X8_has vl_X9_104 (q := (RX8, TX8, 8)) (ci := 8) rfl rfl hf (fun _ e1 => (oO_sp e1).1) (fun _ _ e1 => c_X8_has e1) rfl rfl hl.1 (Nat.le_of_ble_eq_true rfl) ⟨Nat.le_of_ble_eq_true rfl, Nat.le_of_ble_eq_true rfl⟩ ⟨Nat.zero_le _, Nat.zero_le _⟩ dX9_passes_6 (fun H locs v6 h6 hH hf => ?_)
  refine lv_if_ne (tgt := 14) hx hb dX9_passes_9 (by decide) (fun cn => ?_) (fun cn => ?_)
  · have hf := (if_neg cn).symm.trans hf
    refine lv_aload_n hx hb dX9_passes_14 rfl (lv_at hl 0 rfl) ?_
    refine pg_gR C hH fl_X9_53 hf dX9_passes_15 (fun v15 hf => ?_)
    refine lv_iconst (v := (-1 : Int32)) hx hb dX9_passes_18 (by decide) ?_
    refine pg_Vv (As := [.int (-1 : Int32)]) C hH mi_X1_look vl_X9_145 (q := (RX1, TX1, 11)) (ci := 1) rfl rfl hf (fun _ e1 => (oO_sp e1).1) (fun _ e1 => c_X1_look e1) rfl rfl hl.1 (Nat.le_of_ble_eq_true rfl) ⟨Nat.le_of_ble_eq_true rfl, Nat.le_of_ble_eq_true rfl⟩ ⟨Nat.zero_le _, Nat.zero_le _⟩ dX9_passes_19 (fun H locs h19 hH hf => ?_)
    refine lv_aload_n hx hb dX9_passes_22 rfl (lv_at hl 0 rfl) ?_
    refine pg_gR C hH fl_X9_53 hf dX9_passes_23 (fun v23 hf => ?_)
    refine lv_iload_n hx hb dX9_passes_26 rfl (lv_at hl 1 rfl) ?_
    refine pg_Vv (As := [.int x1]) C hH mi_X1_gatherTests vl_X9_181 (q := (RX1, TX1, 11)) (ci := 1) rfl rfl hf (fun _ e1 => (oO_sp e1).1) (fun _ e1 => c_X1_gatherTests e1) rfl rfl hl.1 (Nat.le_of_ble_eq_true rfl) ⟨Nat.le_of_ble_eq_true rfl, Nat.le_of_ble_eq_true rfl⟩ ⟨Nat.zero_le _, Nat.zero_le _⟩ dX9_passes_27 (fun H locs h27 hH hf => ?_)
    refine lv_aload_n hx hb dX9_passes_30 rfl (lv_at hl 0 rfl) ?_
    refine pg_gR C hH fl_X9_53 hf dX9_passes_31 (fun v31 hf => ?_)
    refine lv_iload_n hx hb dX9_passes_34 rfl (lv_at hl 1 rfl) ?_
    refine pg_Vi (As := [.int x1]) C hH mi_X1_isNearATest vl_X9_192 (q := (RX1, TX1, 11)) (ci := 1) rfl rfl hf (fun _ e1 => (oO_sp e1).1) (fun _ _ e1 => c_X1_isNearATest e1) rfl rfl hl.1 (Nat.le_of_ble_eq_true rfl) ⟨Nat.le_of_ble_eq_true rfl, Nat.le_of_ble_eq_true rfl⟩ ⟨Nat.zero_le _, Nat.zero_le _⟩ dX9_passes_35 (fun H locs v35 h35 hH hf => ?_)
    refine lv_if_eq (tgt := 45) hx hb dX9_passes_38 (by decide) (fun cn => ?_) (fun cn => ?_)
    · have hf := (if_pos cn).symm.trans hf
      refine lv_iconst (v := (0 : Int32)) hx hb dX9_passes_45 (by decide) ?_
      exact pg_iret C hr hH hf dX9_passes_46
    · have hf := (if_neg cn).symm.trans hf
      refine lv_iconst (v := (1 : Int32)) hx hb dX9_passes_41 (by decide) ?_
      refine lv_goto (tgt := 46) hx hb dX9_passes_42 (by decide) ?_
      exact pg_iret C hr hH hf dX9_passes_46
  · have hf := (if_pos cn).symm.trans hf
    refine lv_iconst (v := (-1 : Int32)) hx hb dX9_passes_12 (by decide) ?_
    exact pg_iret C hr hH hf dX9_passes_13
set_option maxHeartbeats 4000000 in
set_option maxRecDepth 100000 in
theorem c_X9_prices {l : Launch} {g : GD} {h : PH} {a0 : Nat} {x1 : Int32} {x2 : Int32} {r : Int32} {h' : PH} (hf : mX9_prices h a0 x1 x2 = some (r, h')) : Met l yX9_prices (Cond.code yX9_prices cX9_prices 3 (some .int) :: TB) (rmD 6 0 0) (PcH g [.ref (gB g + a0), .int x1, .int x2] h) (QcI g r h') 0 0 (aB g) := by
  refine Met.ofW (cc := cX9_prices) (maxL := 3) (ret := some .int) (by decide) rfl ?_
  intro p e s m args below meth c s₁ B hml hv
  obtain ⟨rfl, hH0, hkk0⟩ := hv
  have C : CT g RX9 cX9_prices 3 (Cond.code yX9_prices cX9_prices 3 (some .int) :: TB) p s m _ meth c := pg_ct (Tw := []) B hml hH0 hkk0
  have hr := B.returns
  have hH : HS g s s.heap [] h := ⟨hH0, va_S.rf⟩
  have hl := lv_entry ([.ref (gB g + a0), .int x1, .int x2]) (n := 3) (Nat.le_of_ble_eq_true rfl)
  rw [lg_entry_eq]
  generalize (lg_sl ([.ref (gB g + a0), .int x1, .int x2]) ++ List.replicate (3 - (lg_sl ([.ref (gB g + a0), .int x1, .int x2])).length) Slot.unset).toArray = ls at hl ⊢
  have hl : lv_has ls 3 [(0, .ref (gB g + a0)), (1, .int x1), (2, .int x2)] := hl
  show W p l e (rmD 6 0 0) _ _ _ _ _ _ _ _ _ _ _ _
  unfold mX9_prices at hf
  obtain ⟨hO, hf⟩ := oO_sp hf
  obtain ⟨⟨hx, hb, hml, hown, hts⟩, htb, hlk, hkk, hbs⟩ := id C
  refine lv_aload_n hx hb dX9_prices_0 rfl (lv_at hl 0 rfl) ?_
  refine pg_gR C hH fl_X9_19 hf dX9_prices_1 (fun v1 hf => ?_)
  refine lv_iconst (v := (3 : Int32)) hx hb dX9_prices_4 (by decide) ?_
  refine lv_iload_n hx hb dX9_prices_5 rfl (lv_at hl 1 rfl) ?_
  refine pg_Vi (As := [.int (3 : Int32), .int x1]) C hH mi_X8_has vl_X9_104 (q := (RX8, TX8, 8)) (ci := 8) rfl rfl hf (fun _ e1 => (oO_sp e1).1) (fun _ _ e1 => c_X8_has e1) rfl rfl hl.1 (Nat.le_of_ble_eq_true rfl) ⟨Nat.le_of_ble_eq_true rfl, Nat.le_of_ble_eq_true rfl⟩ ⟨Nat.zero_le _, Nat.zero_le _⟩ dX9_prices_6 (fun H locs v6 h6 hH hf => ?_)
  refine lv_if_eq (tgt := 21) hx hb dX9_prices_9 (by decide) (fun cn => ?_) (fun cn => ?_)
  · have hf := (if_pos cn).symm.trans hf
    refine lv_bipush (v := (-2 : Int32)) hx hb dX9_prices_21 (by decide) ?_
    exact pg_iret C hr hH hf dX9_prices_23
  · have hf := (if_neg cn).symm.trans hf
    refine lv_iload_n hx hb dX9_prices_12 rfl (lv_at hl 2 rfl) ?_
    refine lv_if_lt (tgt := 21) hx hb dX9_prices_13 (by decide) (fun cn => ?_) (fun cn => ?_)
    · have hf := (if_pos cn).symm.trans hf
      refine lv_bipush (v := (-2 : Int32)) hx hb dX9_prices_21 (by decide) ?_
      exact pg_iret C hr hH hf dX9_prices_23
    · have hf := (if_neg cn).symm.trans hf
      refine lv_iload_n hx hb dX9_prices_16 rfl (lv_at hl 2 rfl) ?_
      refine lv_iconst (v := (2 : Int32)) hx hb dX9_prices_17 (by decide) ?_
      refine lv_icmp_le (tgt := 24) hx hb dX9_prices_18 (by decide) (fun cn => ?_) (fun cn => ?_)
      · have hf := (if_pos cn).symm.trans hf
        refine lv_aload_n hx hb dX9_prices_24 rfl (lv_at hl 0 rfl) ?_
        refine pg_gR C hH fl_X9_53 hf dX9_prices_25 (fun v25 hf => ?_)
        refine lv_iconst (v := (-1 : Int32)) hx hb dX9_prices_28 (by decide) ?_
        refine pg_Vv (As := [.int (-1 : Int32)]) C hH mi_X1_look vl_X9_145 (q := (RX1, TX1, 11)) (ci := 1) rfl rfl hf (fun _ e1 => (oO_sp e1).1) (fun _ e1 => c_X1_look e1) rfl rfl hl.1 (Nat.le_of_ble_eq_true rfl) ⟨Nat.le_of_ble_eq_true rfl, Nat.le_of_ble_eq_true rfl⟩ ⟨Nat.zero_le _, Nat.zero_le _⟩ dX9_prices_29 (fun H locs h29 hH hf => ?_)
        refine lv_aload_n hx hb dX9_prices_32 rfl (lv_at hl 0 rfl) ?_
        refine pg_gR C hH fl_X9_53 hf dX9_prices_33 (fun v33 hf => ?_)
        refine lv_iload_n hx hb dX9_prices_36 rfl (lv_at hl 1 rfl) ?_
        refine pg_Vv (As := [.int x1]) C hH mi_X1_gatherTests vl_X9_181 (q := (RX1, TX1, 11)) (ci := 1) rfl rfl hf (fun _ e1 => (oO_sp e1).1) (fun _ e1 => c_X1_gatherTests e1) rfl rfl hl.1 (Nat.le_of_ble_eq_true rfl) ⟨Nat.le_of_ble_eq_true rfl, Nat.le_of_ble_eq_true rfl⟩ ⟨Nat.zero_le _, Nat.zero_le _⟩ dX9_prices_37 (fun H locs h37 hH hf => ?_)
        refine lv_aload_n hx hb dX9_prices_40 rfl (lv_at hl 0 rfl) ?_
        refine pg_gR C hH fl_X9_60 hf dX9_prices_41 (fun v41 hf => ?_)
        refine lv_iload_n hx hb dX9_prices_44 rfl (lv_at hl 1 rfl) ?_
        refine lv_aload_n hx hb dX9_prices_45 rfl (lv_at hl 0 rfl) ?_
        refine pg_gR C hH fl_X9_53 hf dX9_prices_46 (fun v46 hf => ?_)
        refine pg_gR C hH fl_X9_187 hf dX9_prices_49 (fun v49 hf => ?_)
        refine lv_aload_n hx hb dX9_prices_52 rfl (lv_at hl 0 rfl) ?_
        refine pg_gR C hH fl_X9_53 hf dX9_prices_53 (fun v53 hf => ?_)
        refine pg_gI C hH fl_X9_184 hf dX9_prices_56 (fun v56 hf => ?_)
        refine pg_Vv (As := [.int x1, .ref (gB g + v49), .int v56]) C hH mi_X5_find vl_X9_196 (q := (RX5, TX5, 5)) (ci := 5) rfl rfl hf (fun _ e1 => (oO_sp e1).1) (fun _ e1 => c_X5_find e1) rfl rfl hl.1 (Nat.le_of_ble_eq_true rfl) ⟨Nat.le_of_ble_eq_true rfl, Nat.le_of_ble_eq_true rfl⟩ ⟨Nat.zero_le _, Nat.zero_le _⟩ dX9_prices_59 (fun H locs h59 hH hf => ?_)
        refine lv_iload_n hx hb dX9_prices_62 rfl (lv_at hl 2 rfl) ?_
        refine lv_if_ne (tgt := 74) hx hb dX9_prices_63 (by decide) (fun cn => ?_) (fun cn => ?_)
        · have hf := (if_neg cn).symm.trans hf
          refine lv_iload_n hx hb dX9_prices_74 rfl (lv_at hl 2 rfl) ?_
          refine lv_iconst (v := (1 : Int32)) hx hb dX9_prices_75 (by decide) ?_
          refine lv_icmp_ne (tgt := 89) hx hb dX9_prices_76 (by decide) (fun cn => ?_) (fun cn => ?_)
          · have hf := (if_neg cn).symm.trans hf
            refine lv_aload_n hx hb dX9_prices_89 rfl (lv_at hl 0 rfl) ?_
            refine pg_gR C hH fl_X9_60 hf dX9_prices_90 (fun v90 hf => ?_)
            refine pg_Vi (As := []) C hH mi_X5_greatest vl_X9_206 (q := (RX5, TX5, 5)) (ci := 5) rfl rfl hf (fun _ e1 => (oO_sp e1).1) (fun _ _ e1 => c_X5_greatest e1) rfl rfl hl.1 (Nat.le_of_ble_eq_true rfl) ⟨Nat.le_of_ble_eq_true rfl, Nat.le_of_ble_eq_true rfl⟩ ⟨Nat.zero_le _, Nat.zero_le _⟩ dX9_prices_93 (fun H locs v93 h93 hH hf => ?_)
            exact pg_iret C hr hH hf dX9_prices_96
          · have hf := (if_pos cn).symm.trans hf
            refine lv_aload_n hx hb dX9_prices_79 rfl (lv_at hl 0 rfl) ?_
            refine pg_gR C hH fl_X9_60 hf dX9_prices_80 (fun v80 hf => ?_)
            refine pg_Vi (As := []) C hH mi_X5_least vl_X9_203 (q := (RX5, TX5, 5)) (ci := 5) rfl rfl hf (fun _ e1 => (oO_sp e1).1) (fun _ _ e1 => c_X5_least e1) rfl rfl hl.1 (Nat.le_of_ble_eq_true rfl) ⟨Nat.le_of_ble_eq_true rfl, Nat.le_of_ble_eq_true rfl⟩ ⟨Nat.zero_le _, Nat.zero_le _⟩ dX9_prices_83 (fun H locs v83 h83 hH hf => ?_)
            refine lv_goto (tgt := 96) hx hb dX9_prices_86 (by decide) ?_
            exact pg_iret C hr hH hf dX9_prices_96
        · have hf := (if_pos cn).symm.trans hf
          refine lv_aload_n hx hb dX9_prices_66 rfl (lv_at hl 0 rfl) ?_
          refine pg_gR C hH fl_X9_60 hf dX9_prices_67 (fun v67 hf => ?_)
          refine pg_Vi (As := []) C hH mi_X5_size vl_X9_200 (q := (RX5, TX5, 5)) (ci := 5) rfl rfl hf (fun _ e1 => (oO_sp e1).1) (fun _ _ e1 => c_X5_size e1) rfl rfl hl.1 (Nat.le_of_ble_eq_true rfl) ⟨Nat.le_of_ble_eq_true rfl, Nat.le_of_ble_eq_true rfl⟩ ⟨Nat.zero_le _, Nat.zero_le _⟩ dX9_prices_70 (fun H locs v70 h70 hH hf => ?_)
          exact pg_iret C hr hH hf dX9_prices_73
      · have hf := (if_neg cn).symm.trans hf
        refine lv_bipush (v := (-2 : Int32)) hx hb dX9_prices_21 (by decide) ?_
        exact pg_iret C hr hH hf dX9_prices_23
set_option maxHeartbeats 4000000 in
set_option maxRecDepth 100000 in
theorem c_X9_needs {l : Launch} {g : GD} {h : PH} {a0 : Nat} {x1 : Int32} {r : Int32} {h' : PH} (hf : mX9_needs h a0 x1 = some (r, h')) : Met l yX9_needs (Cond.code yX9_needs cX9_needs 2 (some .int) :: TB) (rmD 6 0 0) (PcH g [.ref (gB g + a0), .int x1] h) (QcI g r h') 0 0 (aB g) := by
  refine Met.ofW (cc := cX9_needs) (maxL := 2) (ret := some .int) (by decide) rfl ?_
  intro p e s m args below meth c s₁ B hml hv
  obtain ⟨rfl, hH0, hkk0⟩ := hv
  have C : CT g RX9 cX9_needs 2 (Cond.code yX9_needs cX9_needs 2 (some .int) :: TB) p s m _ meth c := pg_ct (Tw := []) B hml hH0 hkk0
  have hr := B.returns
  have hH : HS g s s.heap [] h := ⟨hH0, va_S.rf⟩
  have hl := lv_entry ([.ref (gB g + a0), .int x1]) (n := 2) (Nat.le_of_ble_eq_true rfl)
  rw [lg_entry_eq]
  generalize (lg_sl ([.ref (gB g + a0), .int x1]) ++ List.replicate (2 - (lg_sl ([.ref (gB g + a0), .int x1])).length) Slot.unset).toArray = ls at hl ⊢
  have hl : lv_has ls 2 [(0, .ref (gB g + a0)), (1, .int x1)] := hl
  show W p l e (rmD 6 0 0) _ _ _ _ _ _ _ _ _ _ _ _
  unfold mX9_needs at hf
  obtain ⟨hO, hf⟩ := oO_sp hf
  obtain ⟨⟨hx, hb, hml, hown, hts⟩, htb, hlk, hkk, hbs⟩ := id C
  refine lv_aload_n hx hb dX9_needs_0 rfl (lv_at hl 0 rfl) ?_
  refine pg_gR C hH fl_X9_19 hf dX9_needs_1 (fun v1 hf => ?_)
  refine lv_iconst (v := (3 : Int32)) hx hb dX9_needs_4 (by decide) ?_
  refine lv_iload_n hx hb dX9_needs_5 rfl (lv_at hl 1 rfl) ?_
  refine pg_Vi (As := [.int (3 : Int32), .int x1]) C hH mi_X8_has vl_X9_104 (q := (RX8, TX8, 8)) (ci := 8) rfl rfl hf (fun _ e1 => (oO_sp e1).1) (fun _ _ e1 => c_X8_has e1) rfl rfl hl.1 (Nat.le_of_ble_eq_true rfl) ⟨Nat.le_of_ble_eq_true rfl, Nat.le_of_ble_eq_true rfl⟩ ⟨Nat.zero_le _, Nat.zero_le _⟩ dX9_needs_6 (fun H locs v6 h6 hH hf => ?_)
  refine lv_if_ne (tgt := 14) hx hb dX9_needs_9 (by decide) (fun cn => ?_) (fun cn => ?_)
  · have hf := (if_neg cn).symm.trans hf
    refine lv_aload_n hx hb dX9_needs_14 rfl (lv_at hl 0 rfl) ?_
    refine pg_gR C hH fl_X9_53 hf dX9_needs_15 (fun v15 hf => ?_)
    refine lv_iconst (v := (-1 : Int32)) hx hb dX9_needs_18 (by decide) ?_
    refine pg_Vv (As := [.int (-1 : Int32)]) C hH mi_X1_look vl_X9_145 (q := (RX1, TX1, 11)) (ci := 1) rfl rfl hf (fun _ e1 => (oO_sp e1).1) (fun _ e1 => c_X1_look e1) rfl rfl hl.1 (Nat.le_of_ble_eq_true rfl) ⟨Nat.le_of_ble_eq_true rfl, Nat.le_of_ble_eq_true rfl⟩ ⟨Nat.zero_le _, Nat.zero_le _⟩ dX9_needs_19 (fun H locs h19 hH hf => ?_)
    refine lv_aload_n hx hb dX9_needs_22 rfl (lv_at hl 0 rfl) ?_
    refine pg_gR C hH fl_X9_53 hf dX9_needs_23 (fun v23 hf => ?_)
    refine lv_iload_n hx hb dX9_needs_26 rfl (lv_at hl 1 rfl) ?_
    refine pg_Vv (As := [.int x1]) C hH mi_X1_gatherTests vl_X9_181 (q := (RX1, TX1, 11)) (ci := 1) rfl rfl hf (fun _ e1 => (oO_sp e1).1) (fun _ e1 => c_X1_gatherTests e1) rfl rfl hl.1 (Nat.le_of_ble_eq_true rfl) ⟨Nat.le_of_ble_eq_true rfl, Nat.le_of_ble_eq_true rfl⟩ ⟨Nat.zero_le _, Nat.zero_le _⟩ dX9_needs_27 (fun H locs h27 hH hf => ?_)
    refine lv_aload_n hx hb dX9_needs_30 rfl (lv_at hl 0 rfl) ?_
    refine pg_gR C hH fl_X9_53 hf dX9_needs_31 (fun v31 hf => ?_)
    refine lv_iload_n hx hb dX9_needs_34 rfl (lv_at hl 1 rfl) ?_
    refine pg_Vi (As := [.int x1]) C hH mi_X1_leastNear vl_X9_209 (q := (RX1, TX1, 11)) (ci := 1) rfl rfl hf (fun _ e1 => (oO_sp e1).1) (fun _ _ e1 => c_X1_leastNear e1) rfl rfl hl.1 (Nat.le_of_ble_eq_true rfl) ⟨Nat.le_of_ble_eq_true rfl, Nat.le_of_ble_eq_true rfl⟩ ⟨Nat.zero_le _, Nat.zero_le _⟩ dX9_needs_35 (fun H locs v35 h35 hH hf => ?_)
    exact pg_iret C hr hH hf dX9_needs_38
  · have hf := (if_pos cn).symm.trans hf
    refine lv_iconst (v := (-1 : Int32)) hx hb dX9_needs_12 (by decide) ?_
    exact pg_iret C hr hH hf dX9_needs_13
set_option maxHeartbeats 4000000 in
set_option maxRecDepth 100000 in
theorem wX9_rests_b30 {r30 : PH → Nat → Int32 → Int64 → Int32 → Int32 → Option (Int32 × PH)} {r : Int32} {h' : PH} (C : CT g RX9 cX9_rests 6 (Cond.code yX9_rests cX9_rests 6 (some .int) :: TB) p s m args meth c) (hr : meth.sig.returnType = some .int) (k30 : ∀ {h : PH} {a0 : Nat} {x1 : Int32} {x2 : Int64} {x4 : Int32} {x5 : Int32} {H : Heap} {locs : List Loc} {ls : Array Slot}, HS g s H locs h → r30 h a0 x1 x2 x4 x5 = some (r, h') → lv_has ls 6 [(0, .ref (gB g + a0)), (1, .int x1), (2, .long x2), (4, .int x4), (5, .int x5)] → W p l e (rmD 7 0 0) s m args below meth c H locs 0 0 (MQ below (QcI g r h') args s 0 0 (aB g)) (F0 m 30 ls [])) {h : PH} {a0 : Nat} {x1 : Int32} {x2 : Int64} {x4 : Int32} {x5 : Int32} {H : Heap} {locs : List Loc} {ls : Array Slot} (hH : HS g s H locs h) (hf : mX9_rests_b30 r30 h a0 x1 x2 x4 x5 = some (r, h')) (hl : lv_has ls 6 [(0, .ref (gB g + a0)), (1, .int x1), (2, .long x2), (4, .int x4), (5, .int x5)]) : W p l e (rmD 7 0 0) s m args below meth c H locs 0 0 (MQ below (QcI g r h') args s 0 0 (aB g)) (F0 m 30 ls []) := by
  obtain ⟨⟨hx, hb, hml, hown, hts⟩, htb, hlk, hkk, hbs⟩ := id C
  unfold mX9_rests_b30 at hf
  refine lv_iload hx hb dX9_rests_30 (lv_at hl 4 rfl) ?_
  refine lv_aload_n hx hb dX9_rests_32 rfl (lv_at hl 0 rfl) ?_
  refine pg_gR C hH fl_X9_19 hf dX9_rests_33 (fun v33 hf => ?_)
  refine pg_gR C hH fl_X9_100 hf dX9_rests_36 (fun v36 hf => ?_)
  refine lv_iconst (v := (3 : Int32)) hx hb dX9_rests_39 (by decide) ?_
  refine pg_aI C hH hf dX9_rests_40 (fun v40 hf => ?_)
  refine lv_icmp_ge (tgt := 101) hx hb dX9_rests_41 (by decide) (fun cn => ?_) (fun cn => ?_)
  · have hf := (if_pos cn).symm.trans hf
    refine lv_iload hx hb dX9_rests_101 (lv_at hl 3 rfl) ?_
    exact pg_iret C hr hH hf dX9_rests_103
  · have hf := (if_neg cn).symm.trans hf
    refine lv_iload hx hb dX9_rests_44 (lv_at hl 4 rfl) ?_
    refine lv_iload_n hx hb dX9_rests_46 rfl (lv_at hl 1 rfl) ?_
    refine lv_icmp_ne (tgt := 53) hx hb dX9_rests_47 (by decide) (fun cn => ?_) (fun cn => ?_)
    · have hf := (if_neg cn).symm.trans hf
      refine lv_aload_n hx hb dX9_rests_53 rfl (lv_at hl 0 rfl) ?_
      refine pg_gR C hH fl_X9_53 hf dX9_rests_54 (fun v54 hf => ?_)
      refine lv_iload hx hb dX9_rests_57 (lv_at hl 4 rfl) ?_
      refine pg_Vv (As := [.int x5]) C hH mi_X1_look vl_X9_145 (q := (RX1, TX1, 11)) (ci := 1) rfl rfl hf (fun _ e1 => (oO_sp e1).1) (fun _ e1 => c_X1_look e1) rfl rfl hl.1 (Nat.le_of_ble_eq_true rfl) ⟨Nat.le_of_ble_eq_true rfl, Nat.le_of_ble_eq_true rfl⟩ ⟨Nat.zero_le _, Nat.zero_le _⟩ dX9_rests_59 (fun H locs h59 hH hf => ?_)
      refine lv_aload_n hx hb dX9_rests_62 rfl (lv_at hl 0 rfl) ?_
      refine pg_gR C hH fl_X9_53 hf dX9_rests_63 (fun v63 hf => ?_)
      refine lv_iload_n hx hb dX9_rests_66 rfl (lv_at hl 1 rfl) ?_
      refine lv_aload_n hx hb dX9_rests_67 rfl (lv_at hl 0 rfl) ?_
      refine pg_Vi (As := []) C hH mi_X9_isTurned vl_X9_160 (q := (RX9, TX9, 11)) (ci := 9) rfl rfl hf (fun _ e1 => (oO_sp e1).1) (fun _ _ e1 => c_X9_isTurned e1) rfl rfl hl.1 (Nat.le_of_ble_eq_true rfl) ⟨Nat.le_of_ble_eq_true rfl, Nat.le_of_ble_eq_true rfl⟩ ⟨Nat.zero_le _, Nat.zero_le _⟩ dX9_rests_68 (fun H locs v68 h68 hH hf => ?_)
      refine pg_Vv (As := [.int x1, .int v68]) C hH mi_X1_climb vl_X9_168 (q := (RX1, TX1, 11)) (ci := 1) rfl rfl hf (fun _ e1 => (oO_sp e1).1) (fun _ e1 => c_X1_climb e1) rfl rfl hl.1 (Nat.le_of_ble_eq_true rfl) ⟨Nat.le_of_ble_eq_true rfl, Nat.le_of_ble_eq_true rfl⟩ ⟨Nat.zero_le _, Nat.zero_le _⟩ dX9_rests_71 (fun H locs h71 hH hf => ?_)
      refine lv_aload_n hx hb dX9_rests_74 rfl (lv_at hl 0 rfl) ?_
      refine pg_gR C hH fl_X9_53 hf dX9_rests_75 (fun v75 hf => ?_)
      refine pg_Vl (As := []) C hH mi_X1_answer vl_X9_212 (q := (RX1, TX1, 11)) (ci := 1) rfl rfl hf (fun _ e1 => (oO_sp e1).1) (fun _ _ e1 => c_X1_answer e1) rfl rfl hl.1 (Nat.le_of_ble_eq_true rfl) ⟨Nat.le_of_ble_eq_true rfl, Nat.le_of_ble_eq_true rfl⟩ ⟨Nat.zero_le _, Nat.zero_le _⟩ dX9_rests_78 (fun H locs v78 h78 hH hf => ?_)
      refine lv_lload_n hx hb dX9_rests_81 rfl (lv_at hl 2 rfl) ?_
      refine W.lcmp hx hb dX9_rests_82 ?_
      refine lv_if_eq (tgt := 95) hx hb dX9_rests_83 (by decide) (fun cn => ?_) (fun cn => ?_)
      · have hf := (if_pos ((lg_cmp_eq _ _).mp cn)).symm.trans hf
        refine lv_iinc (v := (x5 + 1)) (lv' := [(5, .int (x5 + 1)), (0, .ref (gB g + a0)), (1, .int x1), (2, .long x2), (4, .int x4)]) hx hb dX9_rests_95 hl (k := 4) rfl rfl (by decide) rfl (fun ls hl => ?_)
        refine lv_goto (tgt := 30) hx hb dX9_rests_98 (by decide) ?_
        exact k30 hH hf (lv_sub hl [1, 2, 3, 4, 0] rfl)
      · have hf := (if_neg (fun z => cn ((lg_cmp_eq _ _).mpr z))).symm.trans hf
        refine lv_iload hx hb dX9_rests_86 (lv_at hl 3 rfl) ?_
        refine lv_iconst (v := (1 : Int32)) hx hb dX9_rests_88 (by decide) ?_
        refine lv_iload hx hb dX9_rests_89 (lv_at hl 4 rfl) ?_
        refine lv_ishl hx hb dX9_rests_91 ?_
        refine lv_ior hx hb dX9_rests_92 ?_
        refine lv_istore (lv' := [(4, .int (x4 ||| ((1 : Int32) <<< (x5 &&& 31)))), (0, .ref (gB g + a0)), (1, .int x1), (2, .long x2), (5, .int x5)]) hx hb dX9_rests_93 hl (by decide) rfl (fun ls hl => ?_)
        refine lv_iinc (v := (x5 + 1)) (lv' := [(5, .int (x5 + 1)), (4, .int (x4 ||| ((1 : Int32) <<< (x5 &&& 31)))), (0, .ref (gB g + a0)), (1, .int x1), (2, .long x2)]) hx hb dX9_rests_95 hl (k := 4) rfl rfl (by decide) rfl (fun ls hl => ?_)
        refine lv_goto (tgt := 30) hx hb dX9_rests_98 (by decide) ?_
        exact k30 hH hf (lv_sub hl [2, 3, 4, 1, 0] rfl)
    · have hf := (if_pos cn).symm.trans hf
      refine lv_goto (tgt := 95) hx hb dX9_rests_50 (by decide) ?_
      refine lv_iinc (v := (x5 + 1)) (lv' := [(5, .int (x5 + 1)), (0, .ref (gB g + a0)), (1, .int x1), (2, .long x2), (4, .int x4)]) hx hb dX9_rests_95 hl (k := 4) rfl rfl (by decide) rfl (fun ls hl => ?_)
      refine lv_goto (tgt := 30) hx hb dX9_rests_98 (by decide) ?_
      exact k30 hH hf (lv_sub hl [1, 2, 3, 4, 0] rfl)
set_option maxHeartbeats 4000000 in
set_option maxRecDepth 100000 in
theorem wX9_rests_L30 {r : Int32} {h' : PH} (C : CT g RX9 cX9_rests 6 (Cond.code yX9_rests cX9_rests 6 (some .int) :: TB) p s m args meth c) (hr : meth.sig.returnType = some .int) : ∀ (n : Nat) {h : PH} {a0 : Nat} {x1 : Int32} {x2 : Int64} {x4 : Int32} {x5 : Int32} {H : Heap} {locs : List Loc} {ls : Array Slot}, HS g s H locs h → mX9_rests_L30 n h a0 x1 x2 x4 x5 = some (r, h') → lv_has ls 6 [(0, .ref (gB g + a0)), (1, .int x1), (2, .long x2), (4, .int x4), (5, .int x5)] → W p l e (rmD 7 0 0) s m args below meth c H locs 0 0 (MQ below (QcI g r h') args s 0 0 (aB g)) (F0 m 30 ls []) := by
  intro n
  induction n with
  | zero =>
    intro h a0 x1 x2 x4 x5 H locs ls hH hf hl
    exact absurd hf (by intro z; cases z)
  | succ n ih =>
    intro h a0 x1 x2 x4 x5 H locs ls hH hf hl
    have hf : mX9_rests_b30 (mX9_rests_L30 n) h a0 x1 x2 x4 x5 = some (r, h') := hf
    exact wX9_rests_b30 C hr (fun a b c => ih a b c) hH hf hl
set_option maxHeartbeats 4000000 in
set_option maxRecDepth 100000 in
theorem c_X9_rests {l : Launch} {g : GD} {h : PH} {a0 : Nat} {x1 : Int32} {r : Int32} {h' : PH} (hf : mX9_rests h a0 x1 = some (r, h')) : Met l yX9_rests (Cond.code yX9_rests cX9_rests 6 (some .int) :: TB) (rmD 7 0 0) (PcH g [.ref (gB g + a0), .int x1] h) (QcI g r h') 0 0 (aB g) := by
  refine Met.ofW (cc := cX9_rests) (maxL := 6) (ret := some .int) (by decide) rfl ?_
  intro p e s m args below meth c s₁ B hml hv
  obtain ⟨rfl, hH0, hkk0⟩ := hv
  have C : CT g RX9 cX9_rests 6 (Cond.code yX9_rests cX9_rests 6 (some .int) :: TB) p s m _ meth c := pg_ct (Tw := []) B hml hH0 hkk0
  have hr := B.returns
  have hH : HS g s s.heap [] h := ⟨hH0, va_S.rf⟩
  have hl := lv_entry ([.ref (gB g + a0), .int x1]) (n := 6) (Nat.le_of_ble_eq_true rfl)
  rw [lg_entry_eq]
  generalize (lg_sl ([.ref (gB g + a0), .int x1]) ++ List.replicate (6 - (lg_sl ([.ref (gB g + a0), .int x1])).length) Slot.unset).toArray = ls at hl ⊢
  have hl : lv_has ls 6 [(0, .ref (gB g + a0)), (1, .int x1)] := hl
  show W p l e (rmD 7 0 0) _ _ _ _ _ _ _ _ _ _ _ _
  unfold mX9_rests at hf
  obtain ⟨hO, hf⟩ := oO_sp hf
  obtain ⟨⟨hx, hb, hml, hown, hts⟩, htb, hlk, hkk, hbs⟩ := id C
  refine lv_aload_n hx hb dX9_rests_0 rfl (lv_at hl 0 rfl) ?_
  refine pg_gR C hH fl_X9_19 hf dX9_rests_1 (fun v1 hf => ?_)
  refine lv_iconst (v := (3 : Int32)) hx hb dX9_rests_4 (by decide) ?_
  refine lv_iload_n hx hb dX9_rests_5 rfl (lv_at hl 1 rfl) ?_
  refine pg_Vi (As := [.int (3 : Int32), .int x1]) C hH mi_X8_has vl_X9_104 (q := (RX8, TX8, 8)) (ci := 8) rfl rfl hf (fun _ e1 => (oO_sp e1).1) (fun _ _ e1 => c_X8_has e1) rfl rfl hl.1 (Nat.le_of_ble_eq_true rfl) ⟨Nat.le_of_ble_eq_true rfl, Nat.le_of_ble_eq_true rfl⟩ ⟨Nat.zero_le _, Nat.zero_le _⟩ dX9_rests_6 (fun H locs v6 h6 hH hf => ?_)
  refine lv_if_ne (tgt := 14) hx hb dX9_rests_9 (by decide) (fun cn => ?_) (fun cn => ?_)
  · have hf := (if_neg cn).symm.trans hf
    refine lv_aload_n hx hb dX9_rests_14 rfl (lv_at hl 0 rfl) ?_
    refine lv_iload_n hx hb dX9_rests_15 rfl (lv_at hl 1 rfl) ?_
    refine lv_aload_n hx hb dX9_rests_16 rfl (lv_at hl 0 rfl) ?_
    refine pg_Vi (As := []) C hH mi_X9_isTurned vl_X9_160 (q := (RX9, TX9, 11)) (ci := 9) rfl rfl hf (fun _ e1 => (oO_sp e1).1) (fun _ _ e1 => c_X9_isTurned e1) rfl rfl hl.1 (Nat.le_of_ble_eq_true rfl) ⟨Nat.le_of_ble_eq_true rfl, Nat.le_of_ble_eq_true rfl⟩ ⟨Nat.zero_le _, Nat.zero_le _⟩ dX9_rests_17 (fun H locs v17 h17 hH hf => ?_)
    refine pg_Vl (As := [.int x1, .int v17]) C hH mi_X9_worthInOrder vl_X9_164 (q := (RX9, TX9, 11)) (ci := 9) rfl rfl hf (fun _ e1 => (oO_sp e1).1) (fun _ _ e1 => c_X9_worthInOrder e1) rfl rfl hl.1 (Nat.le_of_ble_eq_true rfl) ⟨Nat.le_of_ble_eq_true rfl, Nat.le_of_ble_eq_true rfl⟩ ⟨Nat.zero_le _, Nat.zero_le _⟩ dX9_rests_20 (fun H locs v20 h20 hH hf => ?_)
    refine lv_lstore_n (lv' := [(2, .long v20), (0, .ref (gB g + a0)), (1, .int x1)]) hx hb dX9_rests_23 rfl hl (by decide) rfl (fun ls hl => ?_)
    refine lv_iconst (v := (0 : Int32)) hx hb dX9_rests_24 (by decide) ?_
    refine lv_istore (lv' := [(4, .int (0 : Int32)), (2, .long v20), (0, .ref (gB g + a0)), (1, .int x1)]) hx hb dX9_rests_25 hl (by decide) rfl (fun ls hl => ?_)
    refine lv_iconst (v := (0 : Int32)) hx hb dX9_rests_27 (by decide) ?_
    refine lv_istore (lv' := [(5, .int (0 : Int32)), (4, .int (0 : Int32)), (2, .long v20), (0, .ref (gB g + a0)), (1, .int x1)]) hx hb dX9_rests_28 hl (by decide) rfl (fun ls hl => ?_)
    exact wX9_rests_L30 C hr FU hH hf (lv_sub hl [3, 4, 2, 1, 0] rfl)
  · have hf := (if_pos cn).symm.trans hf
    refine lv_iconst (v := (-1 : Int32)) hx hb dX9_rests_12 (by decide) ?_
    exact pg_iret C hr hH hf dX9_rests_13
set_option maxHeartbeats 4000000 in
set_option maxRecDepth 100000 in
theorem wX9_turned_b14 {r : Int64} {h' : PH} (C : CT g RX9 cX9_turned 2 (Cond.code yX9_turned cX9_turned 2 (some .long) :: TB) p s m args meth c) (hr : meth.sig.returnType = some .long) {h : PH} {s0 : Nat} {s1 : Int32} {s2 : Int32} {H : Heap} {locs : List Loc} {ls : Array Slot} (hH : HS g s H locs h) (hf : mX9_turned_b14 h s0 s1 s2 = some (r, h')) (hl : lv_has ls 2 []) : W p l e (rmD 7 0 0) s m args below meth c H locs 0 0 (MQ below (QcL g r h') args s 0 0 (aB g)) (F0 m 14 ls [.int s2, .int s1, .ref (gB g + s0)]) := by
  obtain ⟨⟨hx, hb, hml, hown, hts⟩, htb, hlk, hkk, hbs⟩ := id C
  unfold mX9_turned_b14 at hf
  refine pg_Vl (As := [.int s1, .int s2]) C hH mi_X9_worthInOrder vl_X9_164 (q := (RX9, TX9, 11)) (ci := 9) rfl rfl hf (fun _ e1 => (oO_sp e1).1) (fun _ _ e1 => c_X9_worthInOrder e1) rfl rfl hl.1 (Nat.le_of_ble_eq_true rfl) ⟨Nat.le_of_ble_eq_true rfl, Nat.le_of_ble_eq_true rfl⟩ ⟨Nat.zero_le _, Nat.zero_le _⟩ dX9_turned_14 (fun H locs v14 h14 hH hf => ?_)
  exact pg_lret C hr hH hf dX9_turned_17
set_option maxHeartbeats 4000000 in
set_option maxRecDepth 100000 in
theorem c_X9_turned {l : Launch} {g : GD} {h : PH} {a0 : Nat} {x1 : Int32} {r : Int64} {h' : PH} (hf : mX9_turned h a0 x1 = some (r, h')) : Met l yX9_turned (Cond.code yX9_turned cX9_turned 2 (some .long) :: TB) (rmD 7 0 0) (PcH g [.ref (gB g + a0), .int x1] h) (QcL g r h') 0 0 (aB g) := by
  refine Met.ofW (cc := cX9_turned) (maxL := 2) (ret := some .long) (by decide) rfl ?_
  intro p e s m args below meth c s₁ B hml hv
  obtain ⟨rfl, hH0, hkk0⟩ := hv
  have C : CT g RX9 cX9_turned 2 (Cond.code yX9_turned cX9_turned 2 (some .long) :: TB) p s m _ meth c := pg_ct (Tw := []) B hml hH0 hkk0
  have hr := B.returns
  have hH : HS g s s.heap [] h := ⟨hH0, va_S.rf⟩
  have hl := lv_entry ([.ref (gB g + a0), .int x1]) (n := 2) (Nat.le_of_ble_eq_true rfl)
  rw [lg_entry_eq]
  generalize (lg_sl ([.ref (gB g + a0), .int x1]) ++ List.replicate (2 - (lg_sl ([.ref (gB g + a0), .int x1])).length) Slot.unset).toArray = ls at hl ⊢
  have hl : lv_has ls 2 [(0, .ref (gB g + a0)), (1, .int x1)] := hl
  show W p l e (rmD 7 0 0) _ _ _ _ _ _ _ _ _ _ _ _
  unfold mX9_turned at hf
  obtain ⟨hO, hf⟩ := oO_sp hf
  obtain ⟨⟨hx, hb, hml, hown, hts⟩, htb, hlk, hkk, hbs⟩ := id C
  refine lv_aload_n hx hb dX9_turned_0 rfl (lv_at hl 0 rfl) ?_
  refine lv_iload_n hx hb dX9_turned_1 rfl (lv_at hl 1 rfl) ?_
  refine lv_aload_n hx hb dX9_turned_2 rfl (lv_at hl 0 rfl) ?_
  refine pg_Vi (As := []) C hH mi_X9_isTurned vl_X9_160 (q := (RX9, TX9, 11)) (ci := 9) rfl rfl hf (fun _ e1 => (oO_sp e1).1) (fun _ _ e1 => c_X9_isTurned e1) rfl rfl hl.1 (Nat.le_of_ble_eq_true rfl) ⟨Nat.le_of_ble_eq_true rfl, Nat.le_of_ble_eq_true rfl⟩ ⟨Nat.zero_le _, Nat.zero_le _⟩ dX9_turned_3 (fun H locs v3 h3 hH hf => ?_)
  refine lv_if_ne (tgt := 13) hx hb dX9_turned_6 (by decide) (fun cn => ?_) (fun cn => ?_)
  · have hf := (if_neg cn).symm.trans hf
    refine lv_iconst (v := (0 : Int32)) hx hb dX9_turned_13 (by decide) ?_
    exact wX9_turned_b14 C hr hH hf (lv_sub hl [] rfl)
  · have hf := (if_pos cn).symm.trans hf
    refine lv_iconst (v := (1 : Int32)) hx hb dX9_turned_9 (by decide) ?_
    refine lv_goto (tgt := 14) hx hb dX9_turned_10 (by decide) ?_
    exact wX9_turned_b14 C hr hH hf (lv_sub hl [] rfl)
set_option maxHeartbeats 4000000 in
set_option maxRecDepth 100000 in
theorem c_X9_dutyOn {l : Launch} {g : GD} {h : PH} {a0 : Nat} {x1 : Int64} {r : Int64} {h' : PH} (hf : mX9_dutyOn h a0 x1 = some (r, h')) : Met l yX9_dutyOn (Cond.code yX9_dutyOn cX9_dutyOn 3 (some .long) :: TB) (rmD 0 0 0) (PcH g [.ref (gB g + a0), .long x1] h) (QcL g r h') 0 0 (aB g) := by
  refine Met.ofW (cc := cX9_dutyOn) (maxL := 3) (ret := some .long) (by decide) rfl ?_
  intro p e s m args below meth c s₁ B hml hv
  obtain ⟨rfl, hH0, hkk0⟩ := hv
  have C : CT g RX9 cX9_dutyOn 3 (Cond.code yX9_dutyOn cX9_dutyOn 3 (some .long) :: TB) p s m _ meth c := pg_ct (Tw := []) B hml hH0 hkk0
  have hr := B.returns
  have hH : HS g s s.heap [] h := ⟨hH0, va_S.rf⟩
  have hl := lv_entry ([.ref (gB g + a0), .long x1]) (n := 3) (Nat.le_of_ble_eq_true rfl)
  rw [lg_entry_eq]
  generalize (lg_sl ([.ref (gB g + a0), .long x1]) ++ List.replicate (3 - (lg_sl ([.ref (gB g + a0), .long x1])).length) Slot.unset).toArray = ls at hl ⊢
  have hl : lv_has ls 3 [(0, .ref (gB g + a0)), (1, .long x1)] := hl
  show W p l e (rmD 0 0 0) _ _ _ _ _ _ _ _ _ _ _ _
  unfold mX9_dutyOn at hf
  obtain ⟨hO, hf⟩ := oO_sp hf
  obtain ⟨⟨hx, hb, hml, hown, hts⟩, htb, hlk, hkk, hbs⟩ := id C
  refine lv_lload_n hx hb dX9_dutyOn_0 rfl (lv_at hl 1 rfl) ?_
  refine lv_aload_n hx hb dX9_dutyOn_1 rfl (lv_at hl 0 rfl) ?_
  refine pg_gR C hH fl_X9_19 hf dX9_dutyOn_2 (fun v2 hf => ?_)
  refine pg_gR C hH fl_X9_100 hf dX9_dutyOn_5 (fun v5 hf => ?_)
  refine lv_bipush (v := (9 : Int32)) hx hb dX9_dutyOn_8 (by decide) ?_
  refine pg_aI C hH hf dX9_dutyOn_10 (fun v10 hf => ?_)
  refine lv_i2l (v := (Int32.toInt64 v10)) hx hb dX9_dutyOn_11 rfl ?_
  refine lv_lmul hx hb dX9_dutyOn_12 ?_
  refine lv_ldc2 (v := (100 : Int64)) hx hb hown (hts _ (htb _ kl_X9_247)) dX9_dutyOn_13 ?_
  refine lv_ldiv hx hb dX9_dutyOn_16 (by decide) ?_
  exact pg_lret C hr hH hf dX9_dutyOn_17
set_option maxHeartbeats 4000000 in
set_option maxRecDepth 100000 in
theorem c_X9_due {l : Launch} {g : GD} {h : PH} {a0 : Nat} {x1 : Int32} {r : Int64} {h' : PH} (hf : mX9_due h a0 x1 = some (r, h')) : Met l yX9_due (Cond.code yX9_due cX9_due 4 (some .long) :: TB) (rmD 7 0 0) (PcH g [.ref (gB g + a0), .int x1] h) (QcL g r h') 0 0 (aB g) := by
  refine Met.ofW (cc := cX9_due) (maxL := 4) (ret := some .long) (by decide) rfl ?_
  intro p e s m args below meth c s₁ B hml hv
  obtain ⟨rfl, hH0, hkk0⟩ := hv
  have C : CT g RX9 cX9_due 4 (Cond.code yX9_due cX9_due 4 (some .long) :: TB) p s m _ meth c := pg_ct (Tw := []) B hml hH0 hkk0
  have hr := B.returns
  have hH : HS g s s.heap [] h := ⟨hH0, va_S.rf⟩
  have hl := lv_entry ([.ref (gB g + a0), .int x1]) (n := 4) (Nat.le_of_ble_eq_true rfl)
  rw [lg_entry_eq]
  generalize (lg_sl ([.ref (gB g + a0), .int x1]) ++ List.replicate (4 - (lg_sl ([.ref (gB g + a0), .int x1])).length) Slot.unset).toArray = ls at hl ⊢
  have hl : lv_has ls 4 [(0, .ref (gB g + a0)), (1, .int x1)] := hl
  show W p l e (rmD 7 0 0) _ _ _ _ _ _ _ _ _ _ _ _
  unfold mX9_due at hf
  obtain ⟨hO, hf⟩ := oO_sp hf
  obtain ⟨⟨hx, hb, hml, hown, hts⟩, htb, hlk, hkk, hbs⟩ := id C
  refine lv_aload_n hx hb dX9_due_0 rfl (lv_at hl 0 rfl) ?_
  refine lv_iload_n hx hb dX9_due_1 rfl (lv_at hl 1 rfl) ?_
  refine lv_aload_n hx hb dX9_due_2 rfl (lv_at hl 0 rfl) ?_
  refine pg_Vi (As := []) C hH mi_X9_isTurned vl_X9_160 (q := (RX9, TX9, 11)) (ci := 9) rfl rfl hf (fun _ e1 => (oO_sp e1).1) (fun _ _ e1 => c_X9_isTurned e1) rfl rfl hl.1 (Nat.le_of_ble_eq_true rfl) ⟨Nat.le_of_ble_eq_true rfl, Nat.le_of_ble_eq_true rfl⟩ ⟨Nat.zero_le _, Nat.zero_le _⟩ dX9_due_3 (fun H locs v3 h3 hH hf => ?_)
  refine pg_Vl (As := [.int x1, .int v3]) C hH mi_X9_worthInOrder vl_X9_164 (q := (RX9, TX9, 11)) (ci := 9) rfl rfl hf (fun _ e1 => (oO_sp e1).1) (fun _ _ e1 => c_X9_worthInOrder e1) rfl rfl hl.1 (Nat.le_of_ble_eq_true rfl) ⟨Nat.le_of_ble_eq_true rfl, Nat.le_of_ble_eq_true rfl⟩ ⟨Nat.zero_le _, Nat.zero_le _⟩ dX9_due_6 (fun H locs v6 h6 hH hf => ?_)
  refine lv_lstore_n (lv' := [(2, .long v6), (0, .ref (gB g + a0)), (1, .int x1)]) hx hb dX9_due_9 rfl hl (by decide) rfl (fun ls hl => ?_)
  refine lv_lload_n hx hb dX9_due_10 rfl (lv_at hl 0 rfl) ?_
  refine lv_lconst (v := (0 : Int64)) hx hb dX9_due_11 (by decide) ?_
  refine W.lcmp hx hb dX9_due_12 ?_
  refine lv_if_ge (tgt := 20) hx hb dX9_due_13 (by decide) (fun cn => ?_) (fun cn => ?_)
  · have hf := (if_pos ((lg_cmp_ge _ _).mp cn)).symm.trans hf
    refine lv_aload_n hx hb dX9_due_20 rfl (lv_at hl 1 rfl) ?_
    refine lv_lload_n hx hb dX9_due_21 rfl (lv_at hl 0 rfl) ?_
    refine pg_Vl (As := [.long v6]) C hH mi_X9_dutyOn vl_X9_216 (q := (RX9, TX9, 11)) (ci := 9) rfl rfl hf (fun _ e1 => (oO_sp e1).1) (fun _ _ e1 => c_X9_dutyOn e1) rfl rfl hl.1 (Nat.le_of_ble_eq_true rfl) ⟨Nat.le_of_ble_eq_true rfl, Nat.le_of_ble_eq_true rfl⟩ ⟨Nat.zero_le _, Nat.zero_le _⟩ dX9_due_22 (fun H locs v22 h22 hH hf => ?_)
    exact pg_lret C hr hH hf dX9_due_25
  · have hf := (if_neg (fun z => cn ((lg_cmp_ge _ _).mpr z))).symm.trans hf
    refine lv_lload_n hx hb dX9_due_16 rfl (lv_at hl 0 rfl) ?_
    refine lv_goto (tgt := 25) hx hb dX9_due_17 (by decide) ?_
    exact pg_lret C hr hH hf dX9_due_25
set_option maxHeartbeats 4000000 in
set_option maxRecDepth 100000 in
theorem wX9_dues_b12 {r12 : PH → Nat → Int64 → Int32 → Option (Int64 × PH)} {r : Int64} {h' : PH} (C : CT g RX9 cX9_dues 4 (Cond.code yX9_dues cX9_dues 4 (some .long) :: TB) p s m args meth c) (hr : meth.sig.returnType = some .long) (k12 : ∀ {h : PH} {a0 : Nat} {x1 : Int64} {x3 : Int32} {H : Heap} {locs : List Loc} {ls : Array Slot}, HS g s H locs h → r12 h a0 x1 x3 = some (r, h') → lv_has ls 4 [(0, .ref (gB g + a0)), (1, .long x1), (3, .int x3)] → W p l e (rmD 6 0 0) s m args below meth c H locs 0 0 (MQ below (QcL g r h') args s 0 0 (aB g)) (F0 m 12 ls [])) {h : PH} {a0 : Nat} {x1 : Int64} {x3 : Int32} {H : Heap} {locs : List Loc} {ls : Array Slot} (hH : HS g s H locs h) (hf : mX9_dues_b12 r12 h a0 x1 x3 = some (r, h')) (hl : lv_has ls 4 [(0, .ref (gB g + a0)), (1, .long x1), (3, .int x3)]) : W p l e (rmD 6 0 0) s m args below meth c H locs 0 0 (MQ below (QcL g r h') args s 0 0 (aB g)) (F0 m 12 ls []) := by
  obtain ⟨⟨hx, hb, hml, hown, hts⟩, htb, hlk, hkk, hbs⟩ := id C
  unfold mX9_dues_b12 at hf
  refine lv_iload_n hx hb dX9_dues_12 rfl (lv_at hl 2 rfl) ?_
  refine lv_aload_n hx hb dX9_dues_13 rfl (lv_at hl 0 rfl) ?_
  refine pg_gR C hH fl_X9_19 hf dX9_dues_14 (fun v14 hf => ?_)
  refine pg_gR C hH fl_X9_100 hf dX9_dues_17 (fun v17 hf => ?_)
  refine lv_iconst (v := (3 : Int32)) hx hb dX9_dues_20 (by decide) ?_
  refine pg_aI C hH hf dX9_dues_21 (fun v21 hf => ?_)
  refine lv_icmp_ge (tgt := 67) hx hb dX9_dues_22 (by decide) (fun cn => ?_) (fun cn => ?_)
  · have hf := (if_pos cn).symm.trans hf
    refine lv_lload_n hx hb dX9_dues_67 rfl (lv_at hl 1 rfl) ?_
    exact pg_lret C hr hH hf dX9_dues_68
  · have hf := (if_neg cn).symm.trans hf
    refine lv_aload_n hx hb dX9_dues_25 rfl (lv_at hl 0 rfl) ?_
    refine pg_gR C hH fl_X9_53 hf dX9_dues_26 (fun v26 hf => ?_)
    refine lv_iload_n hx hb dX9_dues_29 rfl (lv_at hl 2 rfl) ?_
    refine lv_aload_n hx hb dX9_dues_30 rfl (lv_at hl 0 rfl) ?_
    refine pg_Vi (As := []) C hH mi_X9_isTurned vl_X9_160 (q := (RX9, TX9, 11)) (ci := 9) rfl rfl hf (fun _ e1 => (oO_sp e1).1) (fun _ _ e1 => c_X9_isTurned e1) rfl rfl hl.1 (Nat.le_of_ble_eq_true rfl) ⟨Nat.le_of_ble_eq_true rfl, Nat.le_of_ble_eq_true rfl⟩ ⟨Nat.zero_le _, Nat.zero_le _⟩ dX9_dues_31 (fun H locs v31 h31 hH hf => ?_)
    refine pg_Vv (As := [.int x3, .int v31]) C hH mi_X1_climb vl_X9_168 (q := (RX1, TX1, 11)) (ci := 1) rfl rfl hf (fun _ e1 => (oO_sp e1).1) (fun _ e1 => c_X1_climb e1) rfl rfl hl.1 (Nat.le_of_ble_eq_true rfl) ⟨Nat.le_of_ble_eq_true rfl, Nat.le_of_ble_eq_true rfl⟩ ⟨Nat.zero_le _, Nat.zero_le _⟩ dX9_dues_34 (fun H locs h34 hH hf => ?_)
    refine lv_aload_n hx hb dX9_dues_37 rfl (lv_at hl 0 rfl) ?_
    refine pg_gR C hH fl_X9_53 hf dX9_dues_38 (fun v38 hf => ?_)
    refine pg_gI C hH fl_X9_172 hf dX9_dues_41 (fun v41 hf => ?_)
    refine lv_if_eq (tgt := 61) hx hb dX9_dues_44 (by decide) (fun cn => ?_) (fun cn => ?_)
    · have hf := (if_pos cn).symm.trans hf
      refine lv_iinc (v := (x3 + 1)) (lv' := [(3, .int (x3 + 1)), (0, .ref (gB g + a0)), (1, .long x1)]) hx hb dX9_dues_61 hl (k := 2) rfl rfl (by decide) rfl (fun ls hl => ?_)
      refine lv_goto (tgt := 12) hx hb dX9_dues_64 (by decide) ?_
      exact k12 hH hf (lv_sub hl [1, 2, 0] rfl)
    · have hf := (if_neg cn).symm.trans hf
      refine lv_lload_n hx hb dX9_dues_47 rfl (lv_at hl 1 rfl) ?_
      refine lv_aload_n hx hb dX9_dues_48 rfl (lv_at hl 0 rfl) ?_
      refine lv_aload_n hx hb dX9_dues_49 rfl (lv_at hl 0 rfl) ?_
      refine pg_gR C hH fl_X9_53 hf dX9_dues_50 (fun v50 hf => ?_)
      refine pg_gL C hH fl_X9_153 hf dX9_dues_53 (fun v53 hf => ?_)
      refine pg_Vl (As := [.long v53]) C hH mi_X9_dutyOn vl_X9_216 (q := (RX9, TX9, 11)) (ci := 9) rfl rfl hf (fun _ e1 => (oO_sp e1).1) (fun _ _ e1 => c_X9_dutyOn e1) rfl rfl hl.1 (Nat.le_of_ble_eq_true rfl) ⟨Nat.le_of_ble_eq_true rfl, Nat.le_of_ble_eq_true rfl⟩ ⟨Nat.zero_le _, Nat.zero_le _⟩ dX9_dues_56 (fun H locs v56 h56 hH hf => ?_)
      refine lv_ladd hx hb dX9_dues_59 ?_
      refine lv_lstore_n (lv' := [(1, .long (x1 + v56)), (0, .ref (gB g + a0)), (3, .int x3)]) hx hb dX9_dues_60 rfl hl (by decide) rfl (fun ls hl => ?_)
      refine lv_iinc (v := (x3 + 1)) (lv' := [(3, .int (x3 + 1)), (1, .long (x1 + v56)), (0, .ref (gB g + a0))]) hx hb dX9_dues_61 hl (k := 2) rfl rfl (by decide) rfl (fun ls hl => ?_)
      refine lv_goto (tgt := 12) hx hb dX9_dues_64 (by decide) ?_
      exact k12 hH hf (lv_sub hl [2, 1, 0] rfl)
set_option maxHeartbeats 4000000 in
set_option maxRecDepth 100000 in
theorem wX9_dues_L12 {r : Int64} {h' : PH} (C : CT g RX9 cX9_dues 4 (Cond.code yX9_dues cX9_dues 4 (some .long) :: TB) p s m args meth c) (hr : meth.sig.returnType = some .long) : ∀ (n : Nat) {h : PH} {a0 : Nat} {x1 : Int64} {x3 : Int32} {H : Heap} {locs : List Loc} {ls : Array Slot}, HS g s H locs h → mX9_dues_L12 n h a0 x1 x3 = some (r, h') → lv_has ls 4 [(0, .ref (gB g + a0)), (1, .long x1), (3, .int x3)] → W p l e (rmD 6 0 0) s m args below meth c H locs 0 0 (MQ below (QcL g r h') args s 0 0 (aB g)) (F0 m 12 ls []) := by
  intro n
  induction n with
  | zero =>
    intro h a0 x1 x3 H locs ls hH hf hl
    exact absurd hf (by intro z; cases z)
  | succ n ih =>
    intro h a0 x1 x3 H locs ls hH hf hl
    have hf : mX9_dues_b12 (mX9_dues_L12 n) h a0 x1 x3 = some (r, h') := hf
    exact wX9_dues_b12 C hr (fun a b c => ih a b c) hH hf hl
set_option maxHeartbeats 4000000 in
set_option maxRecDepth 100000 in
theorem c_X9_dues {l : Launch} {g : GD} {h : PH} {a0 : Nat} {r : Int64} {h' : PH} (hf : mX9_dues h a0 = some (r, h')) : Met l yX9_dues (Cond.code yX9_dues cX9_dues 4 (some .long) :: TB) (rmD 6 0 0) (PcH g [.ref (gB g + a0)] h) (QcL g r h') 0 0 (aB g) := by
  refine Met.ofW (cc := cX9_dues) (maxL := 4) (ret := some .long) (by decide) rfl ?_
  intro p e s m args below meth c s₁ B hml hv
  obtain ⟨rfl, hH0, hkk0⟩ := hv
  have C : CT g RX9 cX9_dues 4 (Cond.code yX9_dues cX9_dues 4 (some .long) :: TB) p s m _ meth c := pg_ct (Tw := []) B hml hH0 hkk0
  have hr := B.returns
  have hH : HS g s s.heap [] h := ⟨hH0, va_S.rf⟩
  have hl := lv_entry ([.ref (gB g + a0)]) (n := 4) (Nat.le_of_ble_eq_true rfl)
  rw [lg_entry_eq]
  generalize (lg_sl ([.ref (gB g + a0)]) ++ List.replicate (4 - (lg_sl ([.ref (gB g + a0)])).length) Slot.unset).toArray = ls at hl ⊢
  have hl : lv_has ls 4 [(0, .ref (gB g + a0))] := hl
  show W p l e (rmD 6 0 0) _ _ _ _ _ _ _ _ _ _ _ _
  unfold mX9_dues at hf
  obtain ⟨hO, hf⟩ := oO_sp hf
  obtain ⟨⟨hx, hb, hml, hown, hts⟩, htb, hlk, hkk, hbs⟩ := id C
  refine lv_lconst (v := (0 : Int64)) hx hb dX9_dues_0 (by decide) ?_
  refine lv_lstore_n (lv' := [(1, .long (0 : Int64)), (0, .ref (gB g + a0))]) hx hb dX9_dues_1 rfl hl (by decide) rfl (fun ls hl => ?_)
  refine lv_aload_n hx hb dX9_dues_2 rfl (lv_at hl 1 rfl) ?_
  refine pg_gR C hH fl_X9_53 hf dX9_dues_3 (fun v3 hf => ?_)
  refine lv_iconst (v := (-1 : Int32)) hx hb dX9_dues_6 (by decide) ?_
  refine pg_Vv (As := [.int (-1 : Int32)]) C hH mi_X1_look vl_X9_145 (q := (RX1, TX1, 11)) (ci := 1) rfl rfl hf (fun _ e1 => (oO_sp e1).1) (fun _ e1 => c_X1_look e1) rfl rfl hl.1 (Nat.le_of_ble_eq_true rfl) ⟨Nat.le_of_ble_eq_true rfl, Nat.le_of_ble_eq_true rfl⟩ ⟨Nat.zero_le _, Nat.zero_le _⟩ dX9_dues_7 (fun H locs h7 hH hf => ?_)
  refine lv_iconst (v := (0 : Int32)) hx hb dX9_dues_10 (by decide) ?_
  refine lv_istore_n (lv' := [(3, .int (0 : Int32)), (1, .long (0 : Int64)), (0, .ref (gB g + a0))]) hx hb dX9_dues_11 rfl hl (by decide) rfl (fun ls hl => ?_)
  exact wX9_dues_L12 C hr FU hH hf (lv_sub hl [2, 1, 0] rfl)
set_option maxHeartbeats 4000000 in
set_option maxRecDepth 100000 in
theorem wX9_all_b24 {r24 : PH → Nat → Int32 → Int32 → Int32 → Option (Int32 × PH)} {r : Int32} {h' : PH} (C : CT g RX9 cX9_all 4 (Cond.code yX9_all cX9_all 4 (some .int) :: TB) p s m args meth c) (hr : meth.sig.returnType = some .int) (k24 : ∀ {h : PH} {a0 : Nat} {x1 : Int32} {x2 : Int32} {x3 : Int32} {H : Heap} {locs : List Loc} {ls : Array Slot}, HS g s H locs h → r24 h a0 x1 x2 x3 = some (r, h') → lv_has ls 4 [(0, .ref (gB g + a0)), (1, .int x1), (2, .int x2), (3, .int x3)] → W p l e (rmD 6 0 0) s m args below meth c H locs 0 0 (MQ below (QcI g r h') args s 0 0 (aB g)) (F0 m 24 ls [])) {h : PH} {a0 : Nat} {x1 : Int32} {x2 : Int32} {x3 : Int32} {H : Heap} {locs : List Loc} {ls : Array Slot} (hH : HS g s H locs h) (hf : mX9_all_b24 r24 h a0 x1 x2 x3 = some (r, h')) (hl : lv_has ls 4 [(0, .ref (gB g + a0)), (1, .int x1), (2, .int x2), (3, .int x3)]) : W p l e (rmD 6 0 0) s m args below meth c H locs 0 0 (MQ below (QcI g r h') args s 0 0 (aB g)) (F0 m 24 ls []) := by
  obtain ⟨⟨hx, hb, hml, hown, hts⟩, htb, hlk, hkk, hbs⟩ := id C
  unfold mX9_all_b24 at hf
  refine lv_iload_n hx hb dX9_all_24 rfl (lv_at hl 3 rfl) ?_
  refine lv_aload_n hx hb dX9_all_25 rfl (lv_at hl 0 rfl) ?_
  refine pg_gR C hH fl_X9_19 hf dX9_all_26 (fun v26 hf => ?_)
  refine pg_gR C hH fl_X9_100 hf dX9_all_29 (fun v29 hf => ?_)
  refine lv_iconst (v := (3 : Int32)) hx hb dX9_all_32 (by decide) ?_
  refine pg_aI C hH hf dX9_all_33 (fun v33 hf => ?_)
  refine lv_icmp_ge (tgt := 72) hx hb dX9_all_34 (by decide) (fun cn => ?_) (fun cn => ?_)
  · have hf := (if_pos cn).symm.trans hf
    refine lv_iload_n hx hb dX9_all_72 rfl (lv_at hl 2 rfl) ?_
    exact pg_iret C hr hH hf dX9_all_73
  · have hf := (if_neg cn).symm.trans hf
    refine lv_aload_n hx hb dX9_all_37 rfl (lv_at hl 0 rfl) ?_
    refine pg_gR C hH fl_X9_53 hf dX9_all_38 (fun v38 hf => ?_)
    refine lv_iload_n hx hb dX9_all_41 rfl (lv_at hl 3 rfl) ?_
    refine lv_aload_n hx hb dX9_all_42 rfl (lv_at hl 0 rfl) ?_
    refine pg_Vi (As := []) C hH mi_X9_isTurned vl_X9_160 (q := (RX9, TX9, 11)) (ci := 9) rfl rfl hf (fun _ e1 => (oO_sp e1).1) (fun _ _ e1 => c_X9_isTurned e1) rfl rfl hl.1 (Nat.le_of_ble_eq_true rfl) ⟨Nat.le_of_ble_eq_true rfl, Nat.le_of_ble_eq_true rfl⟩ ⟨Nat.zero_le _, Nat.zero_le _⟩ dX9_all_43 (fun H locs v43 h43 hH hf => ?_)
    refine pg_Vv (As := [.int x3, .int v43]) C hH mi_X1_climb vl_X9_168 (q := (RX1, TX1, 11)) (ci := 1) rfl rfl hf (fun _ e1 => (oO_sp e1).1) (fun _ e1 => c_X1_climb e1) rfl rfl hl.1 (Nat.le_of_ble_eq_true rfl) ⟨Nat.le_of_ble_eq_true rfl, Nat.le_of_ble_eq_true rfl⟩ ⟨Nat.zero_le _, Nat.zero_le _⟩ dX9_all_46 (fun H locs h46 hH hf => ?_)
    refine lv_aload_n hx hb dX9_all_49 rfl (lv_at hl 0 rfl) ?_
    refine pg_gR C hH fl_X9_53 hf dX9_all_50 (fun v50 hf => ?_)
    refine pg_gI C hH fl_X9_172 hf dX9_all_53 (fun v53 hf => ?_)
    refine lv_iload_n hx hb dX9_all_56 rfl (lv_at hl 1 rfl) ?_
    refine lv_icmp_ne (tgt := 66) hx hb dX9_all_57 (by decide) (fun cn => ?_) (fun cn => ?_)
    · have hf := (if_neg cn).symm.trans hf
      refine lv_iinc (v := (x3 + 1)) (lv' := [(3, .int (x3 + 1)), (0, .ref (gB g + a0)), (1, .int x1), (2, .int x2)]) hx hb dX9_all_66 hl (k := 3) rfl rfl (by decide) rfl (fun ls hl => ?_)
      refine lv_goto (tgt := 24) hx hb dX9_all_69 (by decide) ?_
      exact k24 hH hf (lv_sub hl [1, 2, 3, 0] rfl)
    · have hf := (if_pos cn).symm.trans hf
      refine lv_iload_n hx hb dX9_all_60 rfl (lv_at hl 2 rfl) ?_
      refine lv_iconst (v := (1 : Int32)) hx hb dX9_all_61 (by decide) ?_
      refine lv_iload_n hx hb dX9_all_62 rfl (lv_at hl 3 rfl) ?_
      refine lv_ishl hx hb dX9_all_63 ?_
      refine lv_ior hx hb dX9_all_64 ?_
      refine lv_istore_n (lv' := [(2, .int (x2 ||| ((1 : Int32) <<< (x3 &&& 31)))), (0, .ref (gB g + a0)), (1, .int x1), (3, .int x3)]) hx hb dX9_all_65 rfl hl (by decide) rfl (fun ls hl => ?_)
      refine lv_iinc (v := (x3 + 1)) (lv' := [(3, .int (x3 + 1)), (2, .int (x2 ||| ((1 : Int32) <<< (x3 &&& 31)))), (0, .ref (gB g + a0)), (1, .int x1)]) hx hb dX9_all_66 hl (k := 3) rfl rfl (by decide) rfl (fun ls hl => ?_)
      refine lv_goto (tgt := 24) hx hb dX9_all_69 (by decide) ?_
      exact k24 hH hf (lv_sub hl [2, 3, 1, 0] rfl)
set_option maxHeartbeats 4000000 in
set_option maxRecDepth 100000 in
theorem wX9_all_L24 {r : Int32} {h' : PH} (C : CT g RX9 cX9_all 4 (Cond.code yX9_all cX9_all 4 (some .int) :: TB) p s m args meth c) (hr : meth.sig.returnType = some .int) : ∀ (n : Nat) {h : PH} {a0 : Nat} {x1 : Int32} {x2 : Int32} {x3 : Int32} {H : Heap} {locs : List Loc} {ls : Array Slot}, HS g s H locs h → mX9_all_L24 n h a0 x1 x2 x3 = some (r, h') → lv_has ls 4 [(0, .ref (gB g + a0)), (1, .int x1), (2, .int x2), (3, .int x3)] → W p l e (rmD 6 0 0) s m args below meth c H locs 0 0 (MQ below (QcI g r h') args s 0 0 (aB g)) (F0 m 24 ls []) := by
  intro n
  induction n with
  | zero =>
    intro h a0 x1 x2 x3 H locs ls hH hf hl
    exact absurd hf (by intro z; cases z)
  | succ n ih =>
    intro h a0 x1 x2 x3 H locs ls hH hf hl
    have hf : mX9_all_b24 (mX9_all_L24 n) h a0 x1 x2 x3 = some (r, h') := hf
    exact wX9_all_b24 C hr (fun a b c => ih a b c) hH hf hl
set_option maxHeartbeats 4000000 in
set_option maxRecDepth 100000 in
theorem c_X9_all {l : Launch} {g : GD} {h : PH} {a0 : Nat} {x1 : Int32} {r : Int32} {h' : PH} (hf : mX9_all h a0 x1 = some (r, h')) : Met l yX9_all (Cond.code yX9_all cX9_all 4 (some .int) :: TB) (rmD 6 0 0) (PcH g [.ref (gB g + a0), .int x1] h) (QcI g r h') 0 0 (aB g) := by
  refine Met.ofW (cc := cX9_all) (maxL := 4) (ret := some .int) (by decide) rfl ?_
  intro p e s m args below meth c s₁ B hml hv
  obtain ⟨rfl, hH0, hkk0⟩ := hv
  have C : CT g RX9 cX9_all 4 (Cond.code yX9_all cX9_all 4 (some .int) :: TB) p s m _ meth c := pg_ct (Tw := []) B hml hH0 hkk0
  have hr := B.returns
  have hH : HS g s s.heap [] h := ⟨hH0, va_S.rf⟩
  have hl := lv_entry ([.ref (gB g + a0), .int x1]) (n := 4) (Nat.le_of_ble_eq_true rfl)
  rw [lg_entry_eq]
  generalize (lg_sl ([.ref (gB g + a0), .int x1]) ++ List.replicate (4 - (lg_sl ([.ref (gB g + a0), .int x1])).length) Slot.unset).toArray = ls at hl ⊢
  have hl : lv_has ls 4 [(0, .ref (gB g + a0)), (1, .int x1)] := hl
  show W p l e (rmD 6 0 0) _ _ _ _ _ _ _ _ _ _ _ _
  unfold mX9_all at hf
  obtain ⟨hO, hf⟩ := oO_sp hf
  obtain ⟨⟨hx, hb, hml, hown, hts⟩, htb, hlk, hkk, hbs⟩ := id C
  refine lv_iload_n hx hb dX9_all_0 rfl (lv_at hl 1 rfl) ?_
  refine lv_if_lt (tgt := 10) hx hb dX9_all_1 (by decide) (fun cn => ?_) (fun cn => ?_)
  · have hf := (if_pos cn).symm.trans hf
    refine lv_iconst (v := (-1 : Int32)) hx hb dX9_all_10 (by decide) ?_
    exact pg_iret C hr hH hf dX9_all_11
  · have hf := (if_neg cn).symm.trans hf
    refine lv_iload_n hx hb dX9_all_4 rfl (lv_at hl 1 rfl) ?_
    refine lv_bipush (v := (6 : Int32)) hx hb dX9_all_5 (by decide) ?_
    refine lv_icmp_le (tgt := 12) hx hb dX9_all_7 (by decide) (fun cn => ?_) (fun cn => ?_)
    · have hf := (if_pos cn).symm.trans hf
      refine lv_iconst (v := (0 : Int32)) hx hb dX9_all_12 (by decide) ?_
      refine lv_istore_n (lv' := [(2, .int (0 : Int32)), (0, .ref (gB g + a0)), (1, .int x1)]) hx hb dX9_all_13 rfl hl (by decide) rfl (fun ls hl => ?_)
      refine lv_aload_n hx hb dX9_all_14 rfl (lv_at hl 1 rfl) ?_
      refine pg_gR C hH fl_X9_53 hf dX9_all_15 (fun v15 hf => ?_)
      refine lv_iconst (v := (-1 : Int32)) hx hb dX9_all_18 (by decide) ?_
      refine pg_Vv (As := [.int (-1 : Int32)]) C hH mi_X1_look vl_X9_145 (q := (RX1, TX1, 11)) (ci := 1) rfl rfl hf (fun _ e1 => (oO_sp e1).1) (fun _ e1 => c_X1_look e1) rfl rfl hl.1 (Nat.le_of_ble_eq_true rfl) ⟨Nat.le_of_ble_eq_true rfl, Nat.le_of_ble_eq_true rfl⟩ ⟨Nat.zero_le _, Nat.zero_le _⟩ dX9_all_19 (fun H locs h19 hH hf => ?_)
      refine lv_iconst (v := (0 : Int32)) hx hb dX9_all_22 (by decide) ?_
      refine lv_istore_n (lv' := [(3, .int (0 : Int32)), (2, .int (0 : Int32)), (0, .ref (gB g + a0)), (1, .int x1)]) hx hb dX9_all_23 rfl hl (by decide) rfl (fun ls hl => ?_)
      exact wX9_all_L24 C hr FU hH hf (lv_sub hl [2, 3, 1, 0] rfl)
    · have hf := (if_neg cn).symm.trans hf
      refine lv_iconst (v := (-1 : Int32)) hx hb dX9_all_10 (by decide) ?_
      exact pg_iret C hr hH hf dX9_all_11
set_option maxHeartbeats 4000000 in
set_option maxRecDepth 100000 in
theorem wX9_writeReport_b18 {r18 : PH → Nat → Int32 → Option (PH)} {h' : PH} (C : CT g RX9 cX9_writeReport 2 (Cond.code yX9_writeReport cX9_writeReport 2 (none) :: TB) p s m args meth c) (hr : meth.sig.returnType = none) (k18 : ∀ {h : PH} {a0 : Nat} {x1 : Int32} {H : Heap} {locs : List Loc} {ls : Array Slot}, HS g s H locs h → r18 h a0 x1 = some h' → lv_has ls 2 [(0, .ref (gB g + a0)), (1, .int x1)] → W p l e (rmD 6 0 0) s m args below meth c H locs 0 0 (MQ below (QcV g h') args s 0 0 (aB g)) (F0 m 18 ls [])) {h : PH} {a0 : Nat} {x1 : Int32} {H : Heap} {locs : List Loc} {ls : Array Slot} (hH : HS g s H locs h) (hf : mX9_writeReport_b18 r18 h a0 x1 = some h') (hl : lv_has ls 2 [(0, .ref (gB g + a0)), (1, .int x1)]) : W p l e (rmD 6 0 0) s m args below meth c H locs 0 0 (MQ below (QcV g h') args s 0 0 (aB g)) (F0 m 18 ls []) := by
  obtain ⟨⟨hx, hb, hml, hown, hts⟩, htb, hlk, hkk, hbs⟩ := id C
  unfold mX9_writeReport_b18 at hf
  refine lv_iload_n hx hb dX9_writeReport_18 rfl (lv_at hl 1 rfl) ?_
  refine lv_aload_n hx hb dX9_writeReport_19 rfl (lv_at hl 0 rfl) ?_
  refine pg_gR C hH fl_X9_19 hf dX9_writeReport_20 (fun v20 hf => ?_)
  refine pg_gR C hH fl_X9_100 hf dX9_writeReport_23 (fun v23 hf => ?_)
  refine lv_iconst (v := (3 : Int32)) hx hb dX9_writeReport_26 (by decide) ?_
  refine pg_aI C hH hf dX9_writeReport_27 (fun v27 hf => ?_)
  refine lv_icmp_ge (tgt := 147) hx hb dX9_writeReport_28 (by decide) (fun cn => ?_) (fun cn => ?_)
  · have hf := (if_pos cn).symm.trans hf
    exact pg_vret C hr hH hf dX9_writeReport_147
  · have hf := (if_neg cn).symm.trans hf
    refine lv_aload_n hx hb dX9_writeReport_31 rfl (lv_at hl 0 rfl) ?_
    refine pg_gR C hH fl_X9_53 hf dX9_writeReport_32 (fun v32 hf => ?_)
    refine lv_iload_n hx hb dX9_writeReport_35 rfl (lv_at hl 1 rfl) ?_
    refine lv_aload_n hx hb dX9_writeReport_36 rfl (lv_at hl 0 rfl) ?_
    refine pg_Vi (As := []) C hH mi_X9_isTurned vl_X9_160 (q := (RX9, TX9, 11)) (ci := 9) rfl rfl hf (fun _ e1 => (oO_sp e1).1) (fun _ _ e1 => c_X9_isTurned e1) rfl rfl hl.1 (Nat.le_of_ble_eq_true rfl) ⟨Nat.le_of_ble_eq_true rfl, Nat.le_of_ble_eq_true rfl⟩ ⟨Nat.zero_le _, Nat.zero_le _⟩ dX9_writeReport_37 (fun H locs v37 h37 hH hf => ?_)
    refine pg_Vv (As := [.int x1, .int v37]) C hH mi_X1_climb vl_X9_168 (q := (RX1, TX1, 11)) (ci := 1) rfl rfl hf (fun _ e1 => (oO_sp e1).1) (fun _ e1 => c_X1_climb e1) rfl rfl hl.1 (Nat.le_of_ble_eq_true rfl) ⟨Nat.le_of_ble_eq_true rfl, Nat.le_of_ble_eq_true rfl⟩ ⟨Nat.zero_le _, Nat.zero_le _⟩ dX9_writeReport_40 (fun H locs h40 hH hf => ?_)
    refine lv_aload_n hx hb dX9_writeReport_43 rfl (lv_at hl 0 rfl) ?_
    refine pg_gR C hH fl_X9_74 hf dX9_writeReport_44 (fun v44 hf => ?_)
    refine lv_aload_n hx hb dX9_writeReport_47 rfl (lv_at hl 0 rfl) ?_
    refine pg_gR C hH fl_X9_19 hf dX9_writeReport_48 (fun v48 hf => ?_)
    refine pg_gR C hH fl_X9_249 hf dX9_writeReport_51 (fun v51 hf => ?_)
    refine lv_iload_n hx hb dX9_writeReport_54 rfl (lv_at hl 1 rfl) ?_
    refine pg_aL C hH hf dX9_writeReport_55 (fun v55 hf => ?_)
    refine pg_Vv (As := [.long v55]) C hH mi_X3_addWord vl_X9_252 (q := (RX3, TX3, 2)) (ci := 3) rfl rfl hf (fun _ e1 => (oO_sp e1).1) (fun _ e1 => c_X3_addWord e1) rfl rfl hl.1 (Nat.le_of_ble_eq_true rfl) ⟨Nat.le_of_ble_eq_true rfl, Nat.le_of_ble_eq_true rfl⟩ ⟨Nat.zero_le _, Nat.zero_le _⟩ dX9_writeReport_56 (fun H locs h56 hH hf => ?_)
    refine lv_aload_n hx hb dX9_writeReport_59 rfl (lv_at hl 0 rfl) ?_
    refine pg_gR C hH fl_X9_53 hf dX9_writeReport_60 (fun v60 hf => ?_)
    refine pg_gI C hH fl_X9_172 hf dX9_writeReport_63 (fun v63 hf => ?_)
    refine lv_if_ne (tgt := 82) hx hb dX9_writeReport_66 (by decide) (fun cn => ?_) (fun cn => ?_)
    · have hf := (if_neg cn).symm.trans hf
      refine lv_aload_n hx hb dX9_writeReport_82 rfl (lv_at hl 0 rfl) ?_
      refine pg_gR C hH fl_X9_74 hf dX9_writeReport_83 (fun v83 hf => ?_)
      refine pg_ldcwS (i := 4) rfl C dX9_writeReport_86 ?_
      refine pg_Vv (As := [.ref (gK g 4)]) C hH mi_X3_addText vl_X9_258 (q := (RX3, TX3, 2)) (ci := 3) rfl rfl hf (fun _ e1 => (oO_sp e1).1) (fun _ e1 => c_X3_addText e1) rfl rfl hl.1 (Nat.le_of_ble_eq_true rfl) ⟨Nat.le_of_ble_eq_true rfl, Nat.le_of_ble_eq_true rfl⟩ ⟨Nat.zero_le _, Nat.zero_le _⟩ dX9_writeReport_89 (fun H locs h89 hH hf => ?_)
      refine lv_aload_n hx hb dX9_writeReport_92 rfl (lv_at hl 0 rfl) ?_
      refine pg_gR C hH fl_X9_74 hf dX9_writeReport_93 (fun v93 hf => ?_)
      refine lv_aload_n hx hb dX9_writeReport_96 rfl (lv_at hl 0 rfl) ?_
      refine pg_gR C hH fl_X9_53 hf dX9_writeReport_97 (fun v97 hf => ?_)
      refine pg_gI C hH fl_X9_172 hf dX9_writeReport_100 (fun v100 hf => ?_)
      refine lv_i2l (v := (Int32.toInt64 v100)) hx hb dX9_writeReport_103 rfl ?_
      refine pg_Vv (As := [.long (Int32.toInt64 v100)]) C hH mi_X3_addNumber vl_X9_264 (q := (RX3, TX3, 2)) (ci := 3) rfl rfl hf (fun _ e1 => (oO_sp e1).1) (fun _ e1 => c_X3_addNumber e1) rfl rfl hl.1 (Nat.le_of_ble_eq_true rfl) ⟨Nat.le_of_ble_eq_true rfl, Nat.le_of_ble_eq_true rfl⟩ ⟨Nat.zero_le _, Nat.zero_le _⟩ dX9_writeReport_104 (fun H locs h104 hH hf => ?_)
      refine lv_aload_n hx hb dX9_writeReport_107 rfl (lv_at hl 0 rfl) ?_
      refine pg_gR C hH fl_X9_74 hf dX9_writeReport_108 (fun v108 hf => ?_)
      refine pg_ldcwS (i := 5) rfl C dX9_writeReport_111 ?_
      refine pg_Vv (As := [.ref (gK g 5)]) C hH mi_X3_addText vl_X9_258 (q := (RX3, TX3, 2)) (ci := 3) rfl rfl hf (fun _ e1 => (oO_sp e1).1) (fun _ e1 => c_X3_addText e1) rfl rfl hl.1 (Nat.le_of_ble_eq_true rfl) ⟨Nat.le_of_ble_eq_true rfl, Nat.le_of_ble_eq_true rfl⟩ ⟨Nat.zero_le _, Nat.zero_le _⟩ dX9_writeReport_114 (fun H locs h114 hH hf => ?_)
      refine lv_aload_n hx hb dX9_writeReport_117 rfl (lv_at hl 0 rfl) ?_
      refine pg_gR C hH fl_X9_74 hf dX9_writeReport_118 (fun v118 hf => ?_)
      refine lv_aload_n hx hb dX9_writeReport_121 rfl (lv_at hl 0 rfl) ?_
      refine pg_gR C hH fl_X9_53 hf dX9_writeReport_122 (fun v122 hf => ?_)
      refine pg_gL C hH fl_X9_153 hf dX9_writeReport_125 (fun v125 hf => ?_)
      refine pg_Vv (As := [.long v125]) C hH mi_X3_addNumber vl_X9_264 (q := (RX3, TX3, 2)) (ci := 3) rfl rfl hf (fun _ e1 => (oO_sp e1).1) (fun _ e1 => c_X3_addNumber e1) rfl rfl hl.1 (Nat.le_of_ble_eq_true rfl) ⟨Nat.le_of_ble_eq_true rfl, Nat.le_of_ble_eq_true rfl⟩ ⟨Nat.zero_le _, Nat.zero_le _⟩ dX9_writeReport_128 (fun H locs h128 hH hf => ?_)
      refine lv_aload_n hx hb dX9_writeReport_131 rfl (lv_at hl 0 rfl) ?_
      refine pg_gR C hH fl_X9_74 hf dX9_writeReport_132 (fun v132 hf => ?_)
      refine pg_ldcwS (i := 6) rfl C dX9_writeReport_135 ?_
      refine pg_Vv (As := [.ref (gK g 6)]) C hH mi_X3_addText vl_X9_258 (q := (RX3, TX3, 2)) (ci := 3) rfl rfl hf (fun _ e1 => (oO_sp e1).1) (fun _ e1 => c_X3_addText e1) rfl rfl hl.1 (Nat.le_of_ble_eq_true rfl) ⟨Nat.le_of_ble_eq_true rfl, Nat.le_of_ble_eq_true rfl⟩ ⟨Nat.zero_le _, Nat.zero_le _⟩ dX9_writeReport_138 (fun H locs h138 hH hf => ?_)
      refine lv_iinc (v := (x1 + 1)) (lv' := [(1, .int (x1 + 1)), (0, .ref (gB g + a0))]) hx hb dX9_writeReport_141 hl (k := 1) rfl rfl (by decide) rfl (fun ls hl => ?_)
      refine lv_goto (tgt := 18) hx hb dX9_writeReport_144 (by decide) ?_
      exact k18 hH hf (lv_sub hl [1, 0] rfl)
    · have hf := (if_pos cn).symm.trans hf
      refine lv_aload_n hx hb dX9_writeReport_69 rfl (lv_at hl 0 rfl) ?_
      refine pg_gR C hH fl_X9_74 hf dX9_writeReport_70 (fun v70 hf => ?_)
      refine pg_ldcwS (i := 3) rfl C dX9_writeReport_73 ?_
      refine pg_Vv (As := [.ref (gK g 3)]) C hH mi_X3_addText vl_X9_258 (q := (RX3, TX3, 2)) (ci := 3) rfl rfl hf (fun _ e1 => (oO_sp e1).1) (fun _ e1 => c_X3_addText e1) rfl rfl hl.1 (Nat.le_of_ble_eq_true rfl) ⟨Nat.le_of_ble_eq_true rfl, Nat.le_of_ble_eq_true rfl⟩ ⟨Nat.zero_le _, Nat.zero_le _⟩ dX9_writeReport_76 (fun H locs h76 hH hf => ?_)
      refine lv_goto (tgt := 141) hx hb dX9_writeReport_79 (by decide) ?_
      refine lv_iinc (v := (x1 + 1)) (lv' := [(1, .int (x1 + 1)), (0, .ref (gB g + a0))]) hx hb dX9_writeReport_141 hl (k := 1) rfl rfl (by decide) rfl (fun ls hl => ?_)
      refine lv_goto (tgt := 18) hx hb dX9_writeReport_144 (by decide) ?_
      exact k18 hH hf (lv_sub hl [1, 0] rfl)
set_option maxHeartbeats 4000000 in
set_option maxRecDepth 100000 in
theorem wX9_writeReport_L18 {h' : PH} (C : CT g RX9 cX9_writeReport 2 (Cond.code yX9_writeReport cX9_writeReport 2 (none) :: TB) p s m args meth c) (hr : meth.sig.returnType = none) : ∀ (n : Nat) {h : PH} {a0 : Nat} {x1 : Int32} {H : Heap} {locs : List Loc} {ls : Array Slot}, HS g s H locs h → mX9_writeReport_L18 n h a0 x1 = some h' → lv_has ls 2 [(0, .ref (gB g + a0)), (1, .int x1)] → W p l e (rmD 6 0 0) s m args below meth c H locs 0 0 (MQ below (QcV g h') args s 0 0 (aB g)) (F0 m 18 ls []) := by
  intro n
  induction n with
  | zero =>
    intro h a0 x1 H locs ls hH hf hl
    exact absurd hf (by intro z; cases z)
  | succ n ih =>
    intro h a0 x1 H locs ls hH hf hl
    have hf : mX9_writeReport_b18 (mX9_writeReport_L18 n) h a0 x1 = some h' := hf
    exact wX9_writeReport_b18 C hr (fun a b c => ih a b c) hH hf hl
set_option maxHeartbeats 4000000 in
set_option maxRecDepth 100000 in
theorem c_X9_writeReport {l : Launch} {g : GD} {h : PH} {a0 : Nat} {h' : PH} (hf : mX9_writeReport h a0 = some h') : Met l yX9_writeReport (Cond.code yX9_writeReport cX9_writeReport 2 (none) :: TB) (rmD 6 0 0) (PcH g [.ref (gB g + a0)] h) (QcV g h') 0 0 (aB g) := by
  refine Met.ofW (cc := cX9_writeReport) (maxL := 2) (ret := none) (by decide) rfl ?_
  intro p e s m args below meth c s₁ B hml hv
  obtain ⟨rfl, hH0, hkk0⟩ := hv
  have C : CT g RX9 cX9_writeReport 2 (Cond.code yX9_writeReport cX9_writeReport 2 (none) :: TB) p s m _ meth c := pg_ct (Tw := []) B hml hH0 hkk0
  have hr := B.returns
  have hH : HS g s s.heap [] h := ⟨hH0, va_S.rf⟩
  have hl := lv_entry ([.ref (gB g + a0)]) (n := 2) (Nat.le_of_ble_eq_true rfl)
  rw [lg_entry_eq]
  generalize (lg_sl ([.ref (gB g + a0)]) ++ List.replicate (2 - (lg_sl ([.ref (gB g + a0)])).length) Slot.unset).toArray = ls at hl ⊢
  have hl : lv_has ls 2 [(0, .ref (gB g + a0))] := hl
  show W p l e (rmD 6 0 0) _ _ _ _ _ _ _ _ _ _ _ _
  unfold mX9_writeReport at hf
  obtain ⟨hO, hf⟩ := oO_sp hf
  obtain ⟨⟨hx, hb, hml, hown, hts⟩, htb, hlk, hkk, hbs⟩ := id C
  refine lv_aload_n hx hb dX9_writeReport_0 rfl (lv_at hl 0 rfl) ?_
  refine pg_gR C hH fl_X9_74 hf dX9_writeReport_1 (fun v1 hf => ?_)
  refine lv_iconst (v := (0 : Int32)) hx hb dX9_writeReport_4 (by decide) ?_
  refine pg_pI C hH fl_X9_223 fm_3_1 hf dX9_writeReport_5 (fun H locs h5 hH hf => ?_)
  refine lv_aload_n hx hb dX9_writeReport_8 rfl (lv_at hl 0 rfl) ?_
  refine pg_gR C hH fl_X9_53 hf dX9_writeReport_9 (fun v9 hf => ?_)
  refine lv_iconst (v := (-1 : Int32)) hx hb dX9_writeReport_12 (by decide) ?_
  refine pg_Vv (As := [.int (-1 : Int32)]) C hH mi_X1_look vl_X9_145 (q := (RX1, TX1, 11)) (ci := 1) rfl rfl hf (fun _ e1 => (oO_sp e1).1) (fun _ e1 => c_X1_look e1) rfl rfl hl.1 (Nat.le_of_ble_eq_true rfl) ⟨Nat.le_of_ble_eq_true rfl, Nat.le_of_ble_eq_true rfl⟩ ⟨Nat.zero_le _, Nat.zero_le _⟩ dX9_writeReport_13 (fun H locs h13 hH hf => ?_)
  refine lv_iconst (v := (0 : Int32)) hx hb dX9_writeReport_16 (by decide) ?_
  refine lv_istore_n (lv' := [(1, .int (0 : Int32)), (0, .ref (gB g + a0))]) hx hb dX9_writeReport_17 rfl hl (by decide) rfl (fun ls hl => ?_)
  exact wX9_writeReport_L18 C hr FU hH hf (lv_sub hl [1, 0] rfl)
end WK3
