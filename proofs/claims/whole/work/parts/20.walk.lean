/-! ===== 20: walks (by program) ===== -/
section WK0
variable {p : Program} {l : Launch} {e : Env} {s : State} {m : MethodId} {args : Array Value} {below : List Frame} {meth : Method} {c : Code} {g : GD}
set_option maxHeartbeats 4000000 in
set_option maxRecDepth 100000 in
theorem c_X0_init {l : Launch} {g : GD} {h : PH} {a0 : Nat} {h' : PH} (hf : mX0_init h a0 = some h') : Met l yX0_init (Cond.code yX0_init cX0_init 1 (none) :: TB) (rmD 1 13 60) (PcH g [.ref (gB g + a0)] h) (QcV g h') 13 60 (aB g) := by
  refine Met.ofW (cc := cX0_init) (maxL := 1) (ret := none) (by decide) rfl ?_
  intro p e s m args below meth c s₁ B hml hv
  obtain ⟨rfl, hH0, hkk0⟩ := hv
  have C : CT g RX0 cX0_init 1 (Cond.code yX0_init cX0_init 1 (none) :: TB) p s m _ meth c := pg_ct (Tw := []) B hml hH0 hkk0
  have hr := B.returns
  have hH : HS g s s.heap [] h := ⟨hH0, va_S.rf⟩
  have hl := lv_entry ([.ref (gB g + a0)]) (n := 1) (Nat.le_of_ble_eq_true rfl)
  rw [lg_entry_eq]
  generalize (lg_sl ([.ref (gB g + a0)]) ++ List.replicate (1 - (lg_sl ([.ref (gB g + a0)])).length) Slot.unset).toArray = ls at hl ⊢
  have hl : lv_has ls 1 [(0, .ref (gB g + a0))] := hl
  show W p l e (rmD 1 13 60) _ _ _ _ _ _ _ _ _ _ _ _
  unfold mX0_init at hf
  obtain ⟨hO, hf⟩ := oO_sp hf
  have hin : meth.name = "<init>" := (name_of_methodNamed B.named B.method).1
  obtain ⟨⟨hx, hb, hml, hown, hts⟩, htb, hlk, hkk, hbs⟩ := id C
  refine lv_aload_n hx hb dX0_init_0 rfl (lv_at hl 0 rfl) ?_
  refine pg_obj C oi_X0_3 hl.1 (Nat.le_of_ble_eq_true rfl) (Nat.le_of_ble_eq_true rfl) dX0_init_1 ?_
  refine lv_aload_n hx hb dX0_init_4 rfl (lv_at hl 0 rfl) ?_
  refine lv_bipush (v := (12 : Int32)) hx hb dX0_init_5 (by decide) ?_
  refine lv_iconst (v := (4 : Int32)) hx hb dX0_init_7 (by decide) ?_
  refine pg_mna (N' := 12) (K' := 4) C hH mw_X0_11 ar_I hf (by decide) (by decide) (by decide) (by decide) (Nat.le_of_ble_eq_true rfl) (Nat.le_of_ble_eq_true rfl) (Nat.le_of_ble_eq_true rfl) (Nat.le_of_ble_eq_true rfl) (Nat.le_of_ble_eq_true rfl) dX0_init_8 (fun H n8_0 h8_0 hH hf => ?_)
  refine W.widen (k := 13) (n := 60) (Nat.le_of_ble_eq_true rfl) (Nat.le_of_ble_eq_true rfl) ?_
  refine pg_pR C hin hH fl_X0_13 ff_0_0 rfl rfl hf dX0_init_12 (fun H locs h12_1 hH hf => ?_)
  exact pg_vret C hr hH hf dX0_init_15
set_option maxHeartbeats 4000000 in
set_option maxRecDepth 100000 in
theorem c_X0_clear {l : Launch} {g : GD} {h : PH} {a0 : Nat} {h' : PH} (hf : mX0_clear h a0 = some h') : Met l yX0_clear (Cond.code yX0_clear cX0_clear 1 (none) :: TB) (rmD 0 0 0) (PcH g [.ref (gB g + a0)] h) (QcV g h') 0 0 (aB g) := by
  refine Met.ofW (cc := cX0_clear) (maxL := 1) (ret := none) (by decide) rfl ?_
  intro p e s m args below meth c s₁ B hml hv
  obtain ⟨rfl, hH0, hkk0⟩ := hv
  have C : CT g RX0 cX0_clear 1 (Cond.code yX0_clear cX0_clear 1 (none) :: TB) p s m _ meth c := pg_ct (Tw := []) B hml hH0 hkk0
  have hr := B.returns
  have hH : HS g s s.heap [] h := ⟨hH0, va_S.rf⟩
  have hl := lv_entry ([.ref (gB g + a0)]) (n := 1) (Nat.le_of_ble_eq_true rfl)
  rw [lg_entry_eq]
  generalize (lg_sl ([.ref (gB g + a0)]) ++ List.replicate (1 - (lg_sl ([.ref (gB g + a0)])).length) Slot.unset).toArray = ls at hl ⊢
  have hl : lv_has ls 1 [(0, .ref (gB g + a0))] := hl
  show W p l e (rmD 0 0 0) _ _ _ _ _ _ _ _ _ _ _ _
  unfold mX0_clear at hf
  obtain ⟨hO, hf⟩ := oO_sp hf
  obtain ⟨⟨hx, hb, hml, hown, hts⟩, htb, hlk, hkk, hbs⟩ := id C
  refine lv_aload_n hx hb dX0_clear_0 rfl (lv_at hl 0 rfl) ?_
  refine lv_iconst (v := (0 : Int32)) hx hb dX0_clear_1 (by decide) ?_
  refine pg_pI C hH fl_X0_16 fm_0_2 hf dX0_clear_2 (fun H locs h2 hH hf => ?_)
  exact pg_vret C hr hH hf dX0_clear_5
set_option maxHeartbeats 4000000 in
set_option maxRecDepth 100000 in
theorem c_X0_add {l : Launch} {g : GD} {h : PH} {a0 : Nat} {x1 : Int32} {x2 : Int32} {x3 : Int32} {x4 : Int32} {h' : PH} (hf : mX0_add h a0 x1 x2 x3 x4 = some h') : Met l yX0_add (Cond.code yX0_add cX0_add 6 (none) :: TB) (rmD 1 0 0) (PcH g [.ref (gB g + a0), .int x1, .int x2, .int x3, .int x4] h) (QcV g h') 0 0 (aB g) := by
  refine Met.ofW (cc := cX0_add) (maxL := 6) (ret := none) (by decide) rfl ?_
  intro p e s m args below meth c s₁ B hml hv
  obtain ⟨rfl, hH0, hkk0⟩ := hv
  have C : CT g RX0 cX0_add 6 (Cond.code yX0_add cX0_add 6 (none) :: TB) p s m _ meth c := pg_ct (Tw := []) B hml hH0 hkk0
  have hr := B.returns
  have hH : HS g s s.heap [] h := ⟨hH0, va_S.rf⟩
  have hl := lv_entry ([.ref (gB g + a0), .int x1, .int x2, .int x3, .int x4]) (n := 6) (Nat.le_of_ble_eq_true rfl)
  rw [lg_entry_eq]
  generalize (lg_sl ([.ref (gB g + a0), .int x1, .int x2, .int x3, .int x4]) ++ List.replicate (6 - (lg_sl ([.ref (gB g + a0), .int x1, .int x2, .int x3, .int x4])).length) Slot.unset).toArray = ls at hl ⊢
  have hl : lv_has ls 6 [(0, .ref (gB g + a0)), (1, .int x1), (2, .int x2), (3, .int x3), (4, .int x4)] := hl
  show W p l e (rmD 1 0 0) _ _ _ _ _ _ _ _ _ _ _ _
  unfold mX0_add at hf
  obtain ⟨hO, hf⟩ := oO_sp hf
  obtain ⟨⟨hx, hb, hml, hown, hts⟩, htb, hlk, hkk, hbs⟩ := id C
  refine lv_aload_n hx hb dX0_add_0 rfl (lv_at hl 0 rfl) ?_
  refine pg_gR C hH fl_X0_13 hf dX0_add_1 (fun v1 hf => ?_)
  refine lv_aload_n hx hb dX0_add_4 rfl (lv_at hl 0 rfl) ?_
  refine pg_gI C hH fl_X0_20 hf dX0_add_5 (fun v5 hf => ?_)
  refine pg_aR C hH (Or.inr rfl) hf dX0_add_8 (fun v8 hf => ?_)
  refine lv_astore (lv' := [(5, .ref (gB g + v8)), (0, .ref (gB g + a0)), (1, .int x1), (2, .int x2), (3, .int x3), (4, .int x4)]) hx hb dX0_add_9 hl (by decide) rfl (fun ls hl => ?_)
  refine lv_aload hx hb dX0_add_11 (lv_at hl 0 rfl) ?_
  refine lv_iconst (v := (0 : Int32)) hx hb dX0_add_13 (by decide) ?_
  refine lv_iload_n hx hb dX0_add_14 rfl (lv_at hl 2 rfl) ?_
  refine pg_sI C hH hf dX0_add_15 (fun H locs h15 hH hf => ?_)
  refine lv_aload hx hb dX0_add_16 (lv_at hl 0 rfl) ?_
  refine lv_iconst (v := (1 : Int32)) hx hb dX0_add_18 (by decide) ?_
  refine lv_iload_n hx hb dX0_add_19 rfl (lv_at hl 3 rfl) ?_
  refine pg_sI C hH hf dX0_add_20 (fun H locs h20 hH hf => ?_)
  refine lv_aload hx hb dX0_add_21 (lv_at hl 0 rfl) ?_
  refine lv_iconst (v := (2 : Int32)) hx hb dX0_add_23 (by decide) ?_
  refine lv_iload_n hx hb dX0_add_24 rfl (lv_at hl 4 rfl) ?_
  refine pg_sI C hH hf dX0_add_25 (fun H locs h25 hH hf => ?_)
  refine lv_aload hx hb dX0_add_26 (lv_at hl 0 rfl) ?_
  refine lv_iconst (v := (3 : Int32)) hx hb dX0_add_28 (by decide) ?_
  refine lv_iload hx hb dX0_add_29 (lv_at hl 5 rfl) ?_
  refine pg_sI C hH hf dX0_add_31 (fun H locs h31 hH hf => ?_)
  refine lv_aload_n hx hb dX0_add_32 rfl (lv_at hl 1 rfl) ?_
  refine lv_aload_n hx hb dX0_add_33 rfl (lv_at hl 1 rfl) ?_
  refine pg_gI C hH fl_X0_20 hf dX0_add_34 (fun v34 hf => ?_)
  refine lv_iconst (v := (1 : Int32)) hx hb dX0_add_37 (by decide) ?_
  refine lv_iadd hx hb dX0_add_38 ?_
  refine lv_bipush (v := (12 : Int32)) hx hb dX0_add_39 (by decide) ?_
  refine lv_irem hx hb dX0_add_41 (by decide) ?_
  refine pg_pI C hH fl_X0_20 fm_0_1 hf dX0_add_42 (fun H locs h42 hH hf => ?_)
  refine lv_aload_n hx hb dX0_add_45 rfl (lv_at hl 1 rfl) ?_
  refine lv_aload_n hx hb dX0_add_46 rfl (lv_at hl 1 rfl) ?_
  refine pg_gI C hH fl_X0_16 hf dX0_add_47 (fun v47 hf => ?_)
  refine lv_iconst (v := (1 : Int32)) hx hb dX0_add_50 (by decide) ?_
  refine lv_iadd hx hb dX0_add_51 ?_
  refine lv_bipush (v := (12 : Int32)) hx hb dX0_add_52 (by decide) ?_
  refine pg_mmin C jm_X0_23 hl.1 (Nat.le_of_ble_eq_true rfl) (Nat.le_of_ble_eq_true rfl) ⟨Nat.zero_le _, Nat.zero_le _⟩ dX0_add_54 ?_
  refine pg_pI C hH fl_X0_16 fm_0_2 hf dX0_add_57 (fun H locs h57 hH hf => ?_)
  exact pg_vret C hr hH hf dX0_add_60
set_option maxHeartbeats 4000000 in
set_option maxRecDepth 100000 in
theorem c_X8_isTold {l : Launch} {g : GD} {h : PH} {a0 : Nat} {x1 : Int32} {x2 : Int32} {r : Int32} {h' : PH} (hf : mX8_isTold h a0 x1 x2 = some (r, h')) : Met l yX8_isTold (Cond.code yX8_isTold cX8_isTold 3 (some .boolean) :: TB) (rmD 0 0 0) (PcH g [.ref (gB g + a0), .int x1, .int x2] h) (QcI g r h') 0 0 (aB g) := by
  refine Met.ofW (cc := cX8_isTold) (maxL := 3) (ret := some .boolean) (by decide) rfl ?_
  intro p e s m args below meth c s₁ B hml hv
  obtain ⟨rfl, hH0, hkk0⟩ := hv
  have C : CT g RX8 cX8_isTold 3 (Cond.code yX8_isTold cX8_isTold 3 (some .boolean) :: TB) p s m _ meth c := pg_ct (Tw := []) B hml hH0 hkk0
  have hr := B.returns
  have hH : HS g s s.heap [] h := ⟨hH0, va_S.rf⟩
  have hl := lv_entry ([.ref (gB g + a0), .int x1, .int x2]) (n := 3) (Nat.le_of_ble_eq_true rfl)
  rw [lg_entry_eq]
  generalize (lg_sl ([.ref (gB g + a0), .int x1, .int x2]) ++ List.replicate (3 - (lg_sl ([.ref (gB g + a0), .int x1, .int x2])).length) Slot.unset).toArray = ls at hl ⊢
  have hl : lv_has ls 3 [(0, .ref (gB g + a0)), (1, .int x1), (2, .int x2)] := hl
  show W p l e (rmD 0 0 0) _ _ _ _ _ _ _ _ _ _ _ _
  unfold mX8_isTold at hf
  obtain ⟨hO, hf⟩ := oO_sp hf
  obtain ⟨⟨hx, hb, hml, hown, hts⟩, htb, hlk, hkk, hbs⟩ := id C
  refine lv_aload_n hx hb dX8_isTold_0 rfl (lv_at hl 0 rfl) ?_
  refine pg_gR C hH fl_X8_15 hf dX8_isTold_1 (fun v1 hf => ?_)
  refine lv_iload_n hx hb dX8_isTold_4 rfl (lv_at hl 1 rfl) ?_
  refine pg_aI C hH hf dX8_isTold_5 (fun v5 hf => ?_)
  refine lv_iload_n hx hb dX8_isTold_6 rfl (lv_at hl 2 rfl) ?_
  refine lv_ishr hx hb dX8_isTold_7 ?_
  refine lv_iconst (v := (1 : Int32)) hx hb dX8_isTold_8 (by decide) ?_
  refine lv_iand hx hb dX8_isTold_9 ?_
  refine lv_if_eq (tgt := 17) hx hb dX8_isTold_10 (by decide) (fun cn => ?_) (fun cn => ?_)
  · have hf := (if_pos cn).symm.trans hf
    refine lv_iconst (v := (0 : Int32)) hx hb dX8_isTold_17 (by decide) ?_
    exact pg_zret C hr hH hf dX8_isTold_18
  · have hf := (if_neg cn).symm.trans hf
    refine lv_iconst (v := (1 : Int32)) hx hb dX8_isTold_13 (by decide) ?_
    refine lv_goto (tgt := 18) hx hb dX8_isTold_14 (by decide) ?_
    exact pg_zret C hr hH hf dX8_isTold_18
set_option maxHeartbeats 4000000 in
set_option maxRecDepth 100000 in
theorem wX8_tell_b57 {h' : PH} (C : CT g RX8 cX8_tell 4 (Cond.code yX8_tell cX8_tell 4 (none) :: TB) p s m args meth c) (hr : meth.sig.returnType = none) {h : PH} {s0 : Nat} {s1 : Int32} {s2 : Int32} {s3 : Int32} {H : Heap} {locs : List Loc} {ls : Array Slot} (hH : HS g s H locs h) (hf : mX8_tell_b57 h s0 s1 s2 s3 = some h') (hl : lv_has ls 4 []) : W p l e (rmD 1 0 0) s m args below meth c H locs 0 0 (MQ below (QcV g h') args s 0 0 (aB g)) (F0 m 57 ls [.int s3, .int s2, .int s1, .ref (gB g + s0)]) := by
  obtain ⟨⟨hx, hb, hml, hown, hts⟩, htb, hlk, hkk, hbs⟩ := id C
  unfold mX8_tell_b57 at hf
  refine lv_iadd hx hb dX8_tell_57 ?_
  refine pg_sI C hH hf dX8_tell_58 (fun H locs h58 hH hf => ?_)
  exact pg_vret C hr hH hf dX8_tell_59
set_option maxHeartbeats 4000000 in
set_option maxRecDepth 100000 in
theorem c_X8_tell {l : Launch} {g : GD} {h : PH} {a0 : Nat} {x1 : Int32} {x2 : Int32} {x3 : Int32} {h' : PH} (hf : mX8_tell h a0 x1 x2 x3 = some h') : Met l yX8_tell (Cond.code yX8_tell cX8_tell 4 (none) :: TB) (rmD 1 0 0) (PcH g [.ref (gB g + a0), .int x1, .int x2, .int x3] h) (QcV g h') 0 0 (aB g) := by
  refine Met.ofW (cc := cX8_tell) (maxL := 4) (ret := none) (by decide) rfl ?_
  intro p e s m args below meth c s₁ B hml hv
  obtain ⟨rfl, hH0, hkk0⟩ := hv
  have C : CT g RX8 cX8_tell 4 (Cond.code yX8_tell cX8_tell 4 (none) :: TB) p s m _ meth c := pg_ct (Tw := []) B hml hH0 hkk0
  have hr := B.returns
  have hH : HS g s s.heap [] h := ⟨hH0, va_S.rf⟩
  have hl := lv_entry ([.ref (gB g + a0), .int x1, .int x2, .int x3]) (n := 4) (Nat.le_of_ble_eq_true rfl)
  rw [lg_entry_eq]
  generalize (lg_sl ([.ref (gB g + a0), .int x1, .int x2, .int x3]) ++ List.replicate (4 - (lg_sl ([.ref (gB g + a0), .int x1, .int x2, .int x3])).length) Slot.unset).toArray = ls at hl ⊢
  have hl : lv_has ls 4 [(0, .ref (gB g + a0)), (1, .int x1), (2, .int x2), (3, .int x3)] := hl
  show W p l e (rmD 1 0 0) _ _ _ _ _ _ _ _ _ _ _ _
  unfold mX8_tell at hf
  obtain ⟨hO, hf⟩ := oO_sp hf
  obtain ⟨⟨hx, hb, hml, hown, hts⟩, htb, hlk, hkk, hbs⟩ := id C
  refine lv_iload_n hx hb dX8_tell_0 rfl (lv_at hl 1 rfl) ?_
  refine lv_iload_n hx hb dX8_tell_1 rfl (lv_at hl 2 rfl) ?_
  refine lv_icmp_eq (tgt := 15) hx hb dX8_tell_2 (by decide) (fun cn => ?_) (fun cn => ?_)
  · have hf := (if_pos cn).symm.trans hf
    exact pg_vret C hr hH hf dX8_tell_15
  · have hf := (if_neg cn).symm.trans hf
    refine lv_aload_n hx hb dX8_tell_5 rfl (lv_at hl 0 rfl) ?_
    refine lv_iload_n hx hb dX8_tell_6 rfl (lv_at hl 1 rfl) ?_
    refine lv_iload_n hx hb dX8_tell_7 rfl (lv_at hl 2 rfl) ?_
    refine pg_Vi (As := [.int x1, .int x2]) C hH mi_X8_isTold vl_X8_67 (q := (RX8, TX8, 8)) (ci := 8) rfl rfl hf (fun _ e1 => (oO_sp e1).1) (fun _ _ e1 => c_X8_isTold e1) rfl rfl hl.1 (Nat.le_of_ble_eq_true rfl) ⟨Nat.le_of_ble_eq_true rfl, Nat.le_of_ble_eq_true rfl⟩ ⟨Nat.zero_le _, Nat.zero_le _⟩ dX8_tell_8 (fun H locs v8 h8 hH hf => ?_)
    refine lv_iload_n hx hb dX8_tell_11 rfl (lv_at hl 3 rfl) ?_
    refine lv_icmp_ne (tgt := 16) hx hb dX8_tell_12 (by decide) (fun cn => ?_) (fun cn => ?_)
    · have hf := (if_neg cn).symm.trans hf
      refine lv_aload_n hx hb dX8_tell_16 rfl (lv_at hl 0 rfl) ?_
      refine pg_gR C hH fl_X8_15 hf dX8_tell_17 (fun v17 hf => ?_)
      refine lv_iload_n hx hb dX8_tell_20 rfl (lv_at hl 1 rfl) ?_
      refine lv_dup2_11 hx hb dX8_tell_21 rfl rfl ?_
      refine pg_aI C hH hf dX8_tell_22 (fun v22 hf => ?_)
      refine lv_iconst (v := (1 : Int32)) hx hb dX8_tell_23 (by decide) ?_
      refine lv_iload_n hx hb dX8_tell_24 rfl (lv_at hl 2 rfl) ?_
      refine lv_ishl hx hb dX8_tell_25 ?_
      refine lv_ixor hx hb dX8_tell_26 ?_
      refine pg_sI C hH hf dX8_tell_27 (fun H locs h27 hH hf => ?_)
      refine lv_aload_n hx hb dX8_tell_28 rfl (lv_at hl 0 rfl) ?_
      refine pg_gR C hH fl_X8_15 hf dX8_tell_29 (fun v29 hf => ?_)
      refine lv_iload_n hx hb dX8_tell_32 rfl (lv_at hl 2 rfl) ?_
      refine lv_dup2_11 hx hb dX8_tell_33 rfl rfl ?_
      refine pg_aI C hH hf dX8_tell_34 (fun v34 hf => ?_)
      refine lv_iconst (v := (1 : Int32)) hx hb dX8_tell_35 (by decide) ?_
      refine lv_iload_n hx hb dX8_tell_36 rfl (lv_at hl 1 rfl) ?_
      refine lv_ishl hx hb dX8_tell_37 ?_
      refine lv_ixor hx hb dX8_tell_38 ?_
      refine pg_sI C hH hf dX8_tell_39 (fun H locs h39 hH hf => ?_)
      refine lv_aload_n hx hb dX8_tell_40 rfl (lv_at hl 0 rfl) ?_
      refine pg_gR C hH fl_X8_9 hf dX8_tell_41 (fun v41 hf => ?_)
      refine lv_bipush (v := (13 : Int32)) hx hb dX8_tell_44 (by decide) ?_
      refine lv_dup2_11 hx hb dX8_tell_46 rfl rfl ?_
      refine pg_aI C hH hf dX8_tell_47 (fun v47 hf => ?_)
      refine lv_iload_n hx hb dX8_tell_48 rfl (lv_at hl 3 rfl) ?_
      refine lv_if_eq (tgt := 56) hx hb dX8_tell_49 (by decide) (fun cn => ?_) (fun cn => ?_)
      · have hf := (if_pos cn).symm.trans hf
        refine lv_iconst (v := (-1 : Int32)) hx hb dX8_tell_56 (by decide) ?_
        exact wX8_tell_b57 C hr hH hf (lv_sub hl [] rfl)
      · have hf := (if_neg cn).symm.trans hf
        refine lv_iconst (v := (1 : Int32)) hx hb dX8_tell_52 (by decide) ?_
        refine lv_goto (tgt := 57) hx hb dX8_tell_53 (by decide) ?_
        exact wX8_tell_b57 C hr hH hf (lv_sub hl [] rfl)
    · have hf := (if_pos cn).symm.trans hf
      exact pg_vret C hr hH hf dX8_tell_15
set_option maxHeartbeats 4000000 in
set_option maxRecDepth 100000 in
theorem wX0_takeBack_b132 {h' : PH} (C : CT g RX0 cX0_takeBack 3 (Cond.code yX0_takeBack cX0_takeBack 3 (none) :: TB) p s m args meth c) (hr : meth.sig.returnType = none) {h : PH} {s0 : Nat} {s1 : Int32} {s2 : Int32} {s3 : Int32} {H : Heap} {locs : List Loc} {ls : Array Slot} (hH : HS g s H locs h) (hf : mX0_takeBack_b132 h s0 s1 s2 s3 = some h') (hl : lv_has ls 3 []) : W p l e (rmD 2 0 0) s m args below meth c H locs 0 0 (MQ below (QcV g h') args s 0 0 (aB g)) (F0 m 132 ls [.int s3, .int s2, .int s1, .ref (gB g + s0)]) := by
  obtain ⟨⟨hx, hb, hml, hown, hts⟩, htb, hlk, hkk, hbs⟩ := id C
  unfold mX0_takeBack_b132 at hf
  refine pg_Vv (As := [.int s1, .int s2, .int s3]) C hH mi_X8_tell vl_X0_34 (q := (RX8, TX8, 8)) (ci := 8) rfl rfl hf (fun _ e1 => (oO_sp e1).1) (fun _ e1 => c_X8_tell e1) rfl rfl hl.1 (Nat.le_of_ble_eq_true rfl) ⟨Nat.le_of_ble_eq_true rfl, Nat.le_of_ble_eq_true rfl⟩ ⟨Nat.zero_le _, Nat.zero_le _⟩ dX0_takeBack_132 (fun H locs h132 hH hf => ?_)
  refine lv_goto (tgt := 209) hx hb dX0_takeBack_135 (by decide) ?_
  exact pg_vret C hr hH hf dX0_takeBack_209
set_option maxHeartbeats 4000000 in
set_option maxRecDepth 100000 in
theorem c_X0_takeBack {l : Launch} {g : GD} {h : PH} {a0 : Nat} {a1 : Nat} {h' : PH} (hf : mX0_takeBack h a0 a1 = some h') : Met l yX0_takeBack (Cond.code yX0_takeBack cX0_takeBack 3 (none) :: TB) (rmD 2 0 0) (PcH g [.ref (gB g + a0), .ref (gB g + a1)] h) (QcV g h') 0 0 (aB g) := by
  refine Met.ofW (cc := cX0_takeBack) (maxL := 3) (ret := none) (by decide) rfl ?_
  intro p e s m args below meth c s₁ B hml hv
  obtain ⟨rfl, hH0, hkk0⟩ := hv
  have C : CT g RX0 cX0_takeBack 3 (Cond.code yX0_takeBack cX0_takeBack 3 (none) :: TB) p s m _ meth c := pg_ct (Tw := []) B hml hH0 hkk0
  have hr := B.returns
  have hH : HS g s s.heap [] h := ⟨hH0, va_S.rf⟩
  have hl := lv_entry ([.ref (gB g + a0), .ref (gB g + a1)]) (n := 3) (Nat.le_of_ble_eq_true rfl)
  rw [lg_entry_eq]
  generalize (lg_sl ([.ref (gB g + a0), .ref (gB g + a1)]) ++ List.replicate (3 - (lg_sl ([.ref (gB g + a0), .ref (gB g + a1)])).length) Slot.unset).toArray = ls at hl ⊢
  have hl : lv_has ls 3 [(0, .ref (gB g + a0)), (1, .ref (gB g + a1))] := hl
  show W p l e (rmD 2 0 0) _ _ _ _ _ _ _ _ _ _ _ _
  unfold mX0_takeBack at hf
  obtain ⟨hO, hf⟩ := oO_sp hf
  obtain ⟨⟨hx, hb, hml, hown, hts⟩, htb, hlk, hkk, hbs⟩ := id C
  refine lv_aload_n hx hb dX0_takeBack_0 rfl (lv_at hl 0 rfl) ?_
  refine lv_aload_n hx hb dX0_takeBack_1 rfl (lv_at hl 0 rfl) ?_
  refine pg_gI C hH fl_X0_20 hf dX0_takeBack_2 (fun v2 hf => ?_)
  refine lv_bipush (v := (12 : Int32)) hx hb dX0_takeBack_5 (by decide) ?_
  refine lv_iadd hx hb dX0_takeBack_7 ?_
  refine lv_iconst (v := (1 : Int32)) hx hb dX0_takeBack_8 (by decide) ?_
  refine lv_isub hx hb dX0_takeBack_9 ?_
  refine lv_bipush (v := (12 : Int32)) hx hb dX0_takeBack_10 (by decide) ?_
  refine lv_irem hx hb dX0_takeBack_12 (by decide) ?_
  refine pg_pI C hH fl_X0_20 fm_0_1 hf dX0_takeBack_13 (fun H locs h13 hH hf => ?_)
  refine lv_aload_n hx hb dX0_takeBack_16 rfl (lv_at hl 0 rfl) ?_
  refine lv_dup hx hb dX0_takeBack_17 rfl ?_
  refine pg_gI C hH fl_X0_16 hf dX0_takeBack_18 (fun v18 hf => ?_)
  refine lv_iconst (v := (1 : Int32)) hx hb dX0_takeBack_21 (by decide) ?_
  refine lv_isub hx hb dX0_takeBack_22 ?_
  refine pg_pI C hH fl_X0_16 fm_0_2 hf dX0_takeBack_23 (fun H locs h23 hH hf => ?_)
  refine lv_aload_n hx hb dX0_takeBack_26 rfl (lv_at hl 0 rfl) ?_
  refine pg_gR C hH fl_X0_13 hf dX0_takeBack_27 (fun v27 hf => ?_)
  refine lv_aload_n hx hb dX0_takeBack_30 rfl (lv_at hl 0 rfl) ?_
  refine pg_gI C hH fl_X0_20 hf dX0_takeBack_31 (fun v31 hf => ?_)
  refine pg_aR C hH (Or.inr rfl) hf dX0_takeBack_34 (fun v34 hf => ?_)
  refine lv_astore_n (lv' := [(2, .ref (gB g + v34)), (0, .ref (gB g + a0)), (1, .ref (gB g + a1))]) hx hb dX0_takeBack_35 rfl hl (by decide) rfl (fun ls hl => ?_)
  refine lv_aload_n hx hb dX0_takeBack_36 rfl (lv_at hl 0 rfl) ?_
  refine lv_iconst (v := (0 : Int32)) hx hb dX0_takeBack_37 (by decide) ?_
  refine pg_aI C hH hf dX0_takeBack_38 (fun v38 hf => ?_)
  by_cases c0 : v38 = (0 : Int32)
  · have hf := (if_pos c0).symm.trans hf
    refine lv_tableIn (off := 41) (tgt := 80) hx hb dX0_takeBack_39 (by rw [c0]; decide) (by rw [c0]; decide) (by rw [c0]; decide) (by decide) ?_
    refine lv_aload_n hx hb dX0_takeBack_80 rfl (lv_at hl 2 rfl) ?_
    refine pg_gR C hH fl_X0_29 hf dX0_takeBack_81 (fun v81 hf => ?_)
    refine lv_aload_n hx hb dX0_takeBack_84 rfl (lv_at hl 0 rfl) ?_
    refine lv_iconst (v := (1 : Int32)) hx hb dX0_takeBack_85 (by decide) ?_
    refine pg_aI C hH hf dX0_takeBack_86 (fun v86 hf => ?_)
    refine pg_aR C hH (Or.inr rfl) hf dX0_takeBack_87 (fun v87 hf => ?_)
    refine lv_iconst (v := (4 : Int32)) hx hb dX0_takeBack_88 (by decide) ?_
    refine lv_aload_n hx hb dX0_takeBack_89 rfl (lv_at hl 0 rfl) ?_
    refine lv_iconst (v := (3 : Int32)) hx hb dX0_takeBack_90 (by decide) ?_
    refine pg_aI C hH hf dX0_takeBack_91 (fun v91 hf => ?_)
    refine pg_sI C hH hf dX0_takeBack_92 (fun H locs h92 hH hf => ?_)
    refine lv_goto (tgt := 209) hx hb dX0_takeBack_93 (by decide) ?_
    exact pg_vret C hr hH hf dX0_takeBack_209
  · have hf := (if_neg c0).symm.trans hf
    by_cases c1 : v38 = (1 : Int32)
    · have hf := (if_pos c1).symm.trans hf
      refine lv_tableIn (off := 57) (tgt := 96) hx hb dX0_takeBack_39 (by rw [c1]; decide) (by rw [c1]; decide) (by rw [c1]; decide) (by decide) ?_
      refine lv_aload_n hx hb dX0_takeBack_96 rfl (lv_at hl 2 rfl) ?_
      refine pg_gR C hH fl_X0_29 hf dX0_takeBack_97 (fun v97 hf => ?_)
      refine lv_aload_n hx hb dX0_takeBack_100 rfl (lv_at hl 0 rfl) ?_
      refine lv_iconst (v := (1 : Int32)) hx hb dX0_takeBack_101 (by decide) ?_
      refine pg_aI C hH hf dX0_takeBack_102 (fun v102 hf => ?_)
      refine pg_aR C hH (Or.inr rfl) hf dX0_takeBack_103 (fun v103 hf => ?_)
      refine lv_bipush (v := (6 : Int32)) hx hb dX0_takeBack_104 (by decide) ?_
      refine lv_aload_n hx hb dX0_takeBack_106 rfl (lv_at hl 0 rfl) ?_
      refine lv_iconst (v := (3 : Int32)) hx hb dX0_takeBack_107 (by decide) ?_
      refine pg_aI C hH hf dX0_takeBack_108 (fun v108 hf => ?_)
      refine pg_sI C hH hf dX0_takeBack_109 (fun H locs h109 hH hf => ?_)
      refine lv_goto (tgt := 209) hx hb dX0_takeBack_110 (by decide) ?_
      exact pg_vret C hr hH hf dX0_takeBack_209
    · have hf := (if_neg c1).symm.trans hf
      by_cases c2 : v38 = (2 : Int32)
      · have hf := (if_pos c2).symm.trans hf
        refine lv_tableIn (off := 74) (tgt := 113) hx hb dX0_takeBack_39 (by rw [c2]; decide) (by rw [c2]; decide) (by rw [c2]; decide) (by decide) ?_
        refine lv_aload_n hx hb dX0_takeBack_113 rfl (lv_at hl 2 rfl) ?_
        refine lv_aload_n hx hb dX0_takeBack_114 rfl (lv_at hl 0 rfl) ?_
        refine lv_iconst (v := (1 : Int32)) hx hb dX0_takeBack_115 (by decide) ?_
        refine pg_aI C hH hf dX0_takeBack_116 (fun v116 hf => ?_)
        refine lv_aload_n hx hb dX0_takeBack_117 rfl (lv_at hl 0 rfl) ?_
        refine lv_iconst (v := (2 : Int32)) hx hb dX0_takeBack_118 (by decide) ?_
        refine pg_aI C hH hf dX0_takeBack_119 (fun v119 hf => ?_)
        refine lv_aload_n hx hb dX0_takeBack_120 rfl (lv_at hl 0 rfl) ?_
        refine lv_iconst (v := (3 : Int32)) hx hb dX0_takeBack_121 (by decide) ?_
        refine pg_aI C hH hf dX0_takeBack_122 (fun v122 hf => ?_)
        refine lv_iconst (v := (1 : Int32)) hx hb dX0_takeBack_123 (by decide) ?_
        refine lv_icmp_ne (tgt := 131) hx hb dX0_takeBack_124 (by decide) (fun cn => ?_) (fun cn => ?_)
        · have hf := (if_neg cn).symm.trans hf
          refine lv_iconst (v := (0 : Int32)) hx hb dX0_takeBack_131 (by decide) ?_
          exact wX0_takeBack_b132 C hr hH hf (lv_sub hl [] rfl)
        · have hf := (if_pos cn).symm.trans hf
          refine lv_iconst (v := (1 : Int32)) hx hb dX0_takeBack_127 (by decide) ?_
          refine lv_goto (tgt := 132) hx hb dX0_takeBack_128 (by decide) ?_
          exact wX0_takeBack_b132 C hr hH hf (lv_sub hl [] rfl)
      · have hf := (if_neg c2).symm.trans hf
        by_cases c3 : v38 = (3 : Int32)
        · have hf := (if_pos c3).symm.trans hf
          refine lv_tableIn (off := 99) (tgt := 138) hx hb dX0_takeBack_39 (by rw [c3]; decide) (by rw [c3]; decide) (by rw [c3]; decide) (by decide) ?_
          refine lv_aload_n hx hb dX0_takeBack_138 rfl (lv_at hl 2 rfl) ?_
          refine pg_gR C hH fl_X0_38 hf dX0_takeBack_139 (fun v139 hf => ?_)
          refine lv_bipush (v := (6 : Int32)) hx hb dX0_takeBack_142 (by decide) ?_
          refine lv_aload_n hx hb dX0_takeBack_144 rfl (lv_at hl 0 rfl) ?_
          refine lv_iconst (v := (1 : Int32)) hx hb dX0_takeBack_145 (by decide) ?_
          refine pg_aI C hH hf dX0_takeBack_146 (fun v146 hf => ?_)
          refine lv_iadd hx hb dX0_takeBack_147 ?_
          refine lv_aload_n hx hb dX0_takeBack_148 rfl (lv_at hl 0 rfl) ?_
          refine lv_iconst (v := (3 : Int32)) hx hb dX0_takeBack_149 (by decide) ?_
          refine pg_aI C hH hf dX0_takeBack_150 (fun v150 hf => ?_)
          refine pg_sI C hH hf dX0_takeBack_151 (fun H locs h151 hH hf => ?_)
          refine lv_goto (tgt := 209) hx hb dX0_takeBack_152 (by decide) ?_
          exact pg_vret C hr hH hf dX0_takeBack_209
        · have hf := (if_neg c3).symm.trans hf
          by_cases c4 : v38 = (4 : Int32)
          · have hf := (if_pos c4).symm.trans hf
            refine lv_tableIn (off := 116) (tgt := 155) hx hb dX0_takeBack_39 (by rw [c4]; decide) (by rw [c4]; decide) (by rw [c4]; decide) (by decide) ?_
            refine lv_aload_n hx hb dX0_takeBack_155 rfl (lv_at hl 2 rfl) ?_
            refine pg_gR C hH fl_X0_38 hf dX0_takeBack_156 (fun v156 hf => ?_)
            refine lv_bipush (v := (10 : Int32)) hx hb dX0_takeBack_159 (by decide) ?_
            refine lv_aload_n hx hb dX0_takeBack_161 rfl (lv_at hl 0 rfl) ?_
            refine lv_iconst (v := (3 : Int32)) hx hb dX0_takeBack_162 (by decide) ?_
            refine pg_aI C hH hf dX0_takeBack_163 (fun v163 hf => ?_)
            refine pg_sI C hH hf dX0_takeBack_164 (fun H locs h164 hH hf => ?_)
            refine lv_goto (tgt := 209) hx hb dX0_takeBack_165 (by decide) ?_
            exact pg_vret C hr hH hf dX0_takeBack_209
          · have hf := (if_neg c4).symm.trans hf
            by_cases c5 : v38 = (5 : Int32)
            · have hf := (if_pos c5).symm.trans hf
              refine lv_tableIn (off := 129) (tgt := 168) hx hb dX0_takeBack_39 (by rw [c5]; decide) (by rw [c5]; decide) (by rw [c5]; decide) (by decide) ?_
              refine lv_aload_n hx hb dX0_takeBack_168 rfl (lv_at hl 2 rfl) ?_
              refine pg_gR C hH fl_X0_38 hf dX0_takeBack_169 (fun v169 hf => ?_)
              refine lv_iconst (v := (4 : Int32)) hx hb dX0_takeBack_172 (by decide) ?_
              refine lv_aload_n hx hb dX0_takeBack_173 rfl (lv_at hl 0 rfl) ?_
              refine lv_iconst (v := (3 : Int32)) hx hb dX0_takeBack_174 (by decide) ?_
              refine pg_aI C hH hf dX0_takeBack_175 (fun v175 hf => ?_)
              refine pg_sI C hH hf dX0_takeBack_176 (fun H locs h176 hH hf => ?_)
              refine lv_goto (tgt := 209) hx hb dX0_takeBack_177 (by decide) ?_
              exact pg_vret C hr hH hf dX0_takeBack_209
            · have hf := (if_neg c5).symm.trans hf
              by_cases c6 : v38 = (6 : Int32)
              · have hf := (if_pos c6).symm.trans hf
                refine lv_tableIn (off := 141) (tgt := 180) hx hb dX0_takeBack_39 (by rw [c6]; decide) (by rw [c6]; decide) (by rw [c6]; decide) (by decide) ?_
                refine lv_aload_n hx hb dX0_takeBack_180 rfl (lv_at hl 2 rfl) ?_
                refine pg_gR C hH fl_X0_42 hf dX0_takeBack_181 (fun v181 hf => ?_)
                refine lv_aload_n hx hb dX0_takeBack_184 rfl (lv_at hl 0 rfl) ?_
                refine lv_iconst (v := (1 : Int32)) hx hb dX0_takeBack_185 (by decide) ?_
                refine pg_aI C hH hf dX0_takeBack_186 (fun v186 hf => ?_)
                refine pg_aR C hH (Or.inr rfl) hf dX0_takeBack_187 (fun v187 hf => ?_)
                refine lv_iconst (v := (1 : Int32)) hx hb dX0_takeBack_188 (by decide) ?_
                refine lv_aload_n hx hb dX0_takeBack_189 rfl (lv_at hl 0 rfl) ?_
                refine lv_iconst (v := (3 : Int32)) hx hb dX0_takeBack_190 (by decide) ?_
                refine pg_aI C hH hf dX0_takeBack_191 (fun v191 hf => ?_)
                refine pg_sI C hH hf dX0_takeBack_192 (fun H locs h192 hH hf => ?_)
                refine lv_goto (tgt := 209) hx hb dX0_takeBack_193 (by decide) ?_
                exact pg_vret C hr hH hf dX0_takeBack_209
              · have hf := (if_neg c6).symm.trans hf
                refine lv_tableOut (tgt := 196) hx hb dX0_takeBack_39 (by have q0 := tb_n (v := 0) (by decide) c0; have q1 := tb_n (v := 1) (by decide) c1; have q2 := tb_n (v := 2) (by decide) c2; have q3 := tb_n (v := 3) (by decide) c3; have q4 := tb_n (v := 4) (by decide) c4; have q5 := tb_n (v := 5) (by decide) c5; have q6 := tb_n (v := 6) (by decide) c6; omega) (by decide) ?_
                refine lv_aload_n hx hb dX0_takeBack_196 rfl (lv_at hl 2 rfl) ?_
                refine pg_gR C hH fl_X0_45 hf dX0_takeBack_197 (fun v197 hf => ?_)
                refine lv_aload_n hx hb dX0_takeBack_200 rfl (lv_at hl 0 rfl) ?_
                refine lv_iconst (v := (1 : Int32)) hx hb dX0_takeBack_201 (by decide) ?_
                refine pg_aI C hH hf dX0_takeBack_202 (fun v202 hf => ?_)
                refine pg_aR C hH (Or.inr rfl) hf dX0_takeBack_203 (fun v203 hf => ?_)
                refine lv_iconst (v := (1 : Int32)) hx hb dX0_takeBack_204 (by decide) ?_
                refine lv_aload_n hx hb dX0_takeBack_205 rfl (lv_at hl 0 rfl) ?_
                refine lv_iconst (v := (3 : Int32)) hx hb dX0_takeBack_206 (by decide) ?_
                refine pg_aI C hH hf dX0_takeBack_207 (fun v207 hf => ?_)
                refine pg_sI C hH hf dX0_takeBack_208 (fun H locs h208 hH hf => ?_)
                exact pg_vret C hr hH hf dX0_takeBack_209
set_option maxHeartbeats 4000000 in
set_option maxRecDepth 100000 in
theorem c_X1_init {l : Launch} {g : GD} {h : PH} {a0 : Nat} {a1 : Nat} {a2 : Nat} {h' : PH} (hf : mX1_init h a0 a1 a2 = some h') : Met l yX1_init (Cond.code yX1_init cX1_init 3 (none) :: TB) (rmD 1 3 27) (PcH g [.ref (gB g + a0), .ref (gB g + a1), .ref (gB g + a2)] h) (QcV g h') 3 27 (aB g) := by
  refine Met.ofW (cc := cX1_init) (maxL := 3) (ret := none) (by decide) rfl ?_
  intro p e s m args below meth c s₁ B hml hv
  obtain ⟨rfl, hH0, hkk0⟩ := hv
  have C : CT g RX1 cX1_init 3 (Cond.code yX1_init cX1_init 3 (none) :: TB) p s m _ meth c := pg_ct (Tw := []) B hml hH0 hkk0
  have hr := B.returns
  have hH : HS g s s.heap [] h := ⟨hH0, va_S.rf⟩
  have hl := lv_entry ([.ref (gB g + a0), .ref (gB g + a1), .ref (gB g + a2)]) (n := 3) (Nat.le_of_ble_eq_true rfl)
  rw [lg_entry_eq]
  generalize (lg_sl ([.ref (gB g + a0), .ref (gB g + a1), .ref (gB g + a2)]) ++ List.replicate (3 - (lg_sl ([.ref (gB g + a0), .ref (gB g + a1), .ref (gB g + a2)])).length) Slot.unset).toArray = ls at hl ⊢
  have hl : lv_has ls 3 [(0, .ref (gB g + a0)), (1, .ref (gB g + a1)), (2, .ref (gB g + a2))] := hl
  show W p l e (rmD 1 3 27) _ _ _ _ _ _ _ _ _ _ _ _
  unfold mX1_init at hf
  obtain ⟨hO, hf⟩ := oO_sp hf
  have hin : meth.name = "<init>" := (name_of_methodNamed B.named B.method).1
  obtain ⟨⟨hx, hb, hml, hown, hts⟩, htb, hlk, hkk, hbs⟩ := id C
  refine lv_aload_n hx hb dX1_init_0 rfl (lv_at hl 0 rfl) ?_
  refine pg_obj C oi_X1_3 hl.1 (Nat.le_of_ble_eq_true rfl) (Nat.le_of_ble_eq_true rfl) dX1_init_1 ?_
  refine lv_aload_n hx hb dX1_init_4 rfl (lv_at hl 0 rfl) ?_
  refine lv_bipush (v := (10 : Int32)) hx hb dX1_init_5 (by decide) ?_
  refine pg_newI (N' := 10) C hH ar_I hf (by decide) (by decide) (Nat.le_of_ble_eq_true rfl) (Nat.le_of_ble_eq_true rfl) (Nat.le_of_ble_eq_true rfl) dX1_init_7 (fun H n7_0 h7_0 hH hf => ?_)
  refine W.widen (k := 1) (n := 10) (Nat.le_of_ble_eq_true rfl) (Nat.le_of_ble_eq_true rfl) ?_
  refine pg_pR C hin hH fl_X1_9 ff_1_2 rfl rfl hf dX1_init_9 (fun H locs h9_1 hH hf => ?_)
  refine lv_aload_n hx hb dX1_init_12 rfl (lv_at hl 0 rfl) ?_
  refine lv_bipush (v := (11 : Int32)) hx hb dX1_init_13 (by decide) ?_
  refine pg_newL (N' := 11) C hH ar_L hf (by decide) (by decide) (Nat.le_of_ble_eq_true rfl) (Nat.le_of_ble_eq_true rfl) (Nat.le_of_ble_eq_true rfl) dX1_init_15 (fun H n15_2 h15_2 hH hf => ?_)
  refine W.widen (k := 2) (n := 21) (Nat.le_of_ble_eq_true rfl) (Nat.le_of_ble_eq_true rfl) ?_
  refine pg_pR C hin hH fl_X1_15 ff_1_3 rfl rfl hf dX1_init_17 (fun H locs h17_3 hH hf => ?_)
  refine lv_aload_n hx hb dX1_init_20 rfl (lv_at hl 0 rfl) ?_
  refine lv_bipush (v := (6 : Int32)) hx hb dX1_init_21 (by decide) ?_
  refine pg_newI (N' := 6) C hH ar_I hf (by decide) (by decide) (Nat.le_of_ble_eq_true rfl) (Nat.le_of_ble_eq_true rfl) (Nat.le_of_ble_eq_true rfl) dX1_init_23 (fun H n23_4 h23_4 hH hf => ?_)
  refine W.widen (k := 3) (n := 27) (Nat.le_of_ble_eq_true rfl) (Nat.le_of_ble_eq_true rfl) ?_
  refine pg_pR C hin hH fl_X1_19 ff_1_8 rfl rfl hf dX1_init_25 (fun H locs h25_5 hH hf => ?_)
  refine lv_aload_n hx hb dX1_init_28 rfl (lv_at hl 0 rfl) ?_
  refine lv_aload_n hx hb dX1_init_29 rfl (lv_at hl 1 rfl) ?_
  refine pg_pR C hin hH fl_X1_22 ff_1_0 rfl rfl hf dX1_init_30 (fun H locs h30_6 hH hf => ?_)
  refine lv_aload_n hx hb dX1_init_33 rfl (lv_at hl 0 rfl) ?_
  refine lv_aload_n hx hb dX1_init_34 rfl (lv_at hl 2 rfl) ?_
  refine pg_pR C hin hH fl_X1_26 ff_1_1 rfl rfl hf dX1_init_35 (fun H locs h35_7 hH hf => ?_)
  exact pg_vret C hr hH hf dX1_init_38
set_option maxHeartbeats 4000000 in
set_option maxRecDepth 100000 in
theorem c_X2_areKin {l : Launch} {g : GD} {h : PH} {a0 : Nat} {x1 : Int32} {x2 : Int32} {r : Int32} {h' : PH} (hf : mX2_areKin h a0 x1 x2 = some (r, h')) : Met l yX2_areKin (Cond.code yX2_areKin cX2_areKin 3 (some .boolean) :: TB) (rmD 0 0 0) (PcH g [.ref (gB g + a0), .int x1, .int x2] h) (QcI g r h') 0 0 (aB g) := by
  refine Met.ofW (cc := cX2_areKin) (maxL := 3) (ret := some .boolean) (by decide) rfl ?_
  intro p e s m args below meth c s₁ B hml hv
  obtain ⟨rfl, hH0, hkk0⟩ := hv
  have C : CT g RX2 cX2_areKin 3 (Cond.code yX2_areKin cX2_areKin 3 (some .boolean) :: TB) p s m _ meth c := pg_ct (Tw := []) B hml hH0 hkk0
  have hr := B.returns
  have hH : HS g s s.heap [] h := ⟨hH0, va_S.rf⟩
  have hl := lv_entry ([.ref (gB g + a0), .int x1, .int x2]) (n := 3) (Nat.le_of_ble_eq_true rfl)
  rw [lg_entry_eq]
  generalize (lg_sl ([.ref (gB g + a0), .int x1, .int x2]) ++ List.replicate (3 - (lg_sl ([.ref (gB g + a0), .int x1, .int x2])).length) Slot.unset).toArray = ls at hl ⊢
  have hl : lv_has ls 3 [(0, .ref (gB g + a0)), (1, .int x1), (2, .int x2)] := hl
  show W p l e (rmD 0 0 0) _ _ _ _ _ _ _ _ _ _ _ _
  unfold mX2_areKin at hf
  obtain ⟨hO, hf⟩ := oO_sp hf
  obtain ⟨⟨hx, hb, hml, hown, hts⟩, htb, hlk, hkk, hbs⟩ := id C
  refine lv_aload_n hx hb dX2_areKin_0 rfl (lv_at hl 0 rfl) ?_
  refine pg_gR C hH fl_X2_9 hf dX2_areKin_1 (fun v1 hf => ?_)
  refine lv_iload_n hx hb dX2_areKin_4 rfl (lv_at hl 1 rfl) ?_
  refine pg_aI C hH hf dX2_areKin_5 (fun v5 hf => ?_)
  refine lv_iload_n hx hb dX2_areKin_6 rfl (lv_at hl 2 rfl) ?_
  refine lv_ishr hx hb dX2_areKin_7 ?_
  refine lv_iconst (v := (1 : Int32)) hx hb dX2_areKin_8 (by decide) ?_
  refine lv_iand hx hb dX2_areKin_9 ?_
  refine lv_if_eq (tgt := 17) hx hb dX2_areKin_10 (by decide) (fun cn => ?_) (fun cn => ?_)
  · have hf := (if_pos cn).symm.trans hf
    refine lv_iconst (v := (0 : Int32)) hx hb dX2_areKin_17 (by decide) ?_
    exact pg_zret C hr hH hf dX2_areKin_18
  · have hf := (if_neg cn).symm.trans hf
    refine lv_iconst (v := (1 : Int32)) hx hb dX2_areKin_13 (by decide) ?_
    refine lv_goto (tgt := 18) hx hb dX2_areKin_14 (by decide) ?_
    exact pg_zret C hr hH hf dX2_areKin_18
set_option maxHeartbeats 4000000 in
set_option maxRecDepth 100000 in
theorem wX2_closeKin_b51 {r44 : PH → Nat → Int32 → Int32 → Option (PH)} {r51 : PH → Nat → Int32 → Int32 → Int32 → Option (PH)} {h' : PH} (C : CT g RX2 cX2_closeKin 4 (Cond.code yX2_closeKin cX2_closeKin 4 (none) :: TB) p s m args meth c) (hr : meth.sig.returnType = none) (k44 : ∀ {h : PH} {a0 : Nat} {x1 : Int32} {x2 : Int32} {H : Heap} {locs : List Loc} {ls : Array Slot}, HS g s H locs h → r44 h a0 x1 x2 = some h' → lv_has ls 4 [(0, .ref (gB g + a0)), (1, .int x1), (2, .int x2)] → W p l e (rmD 1 0 0) s m args below meth c H locs 0 0 (MQ below (QcV g h') args s 0 0 (aB g)) (F0 m 44 ls [])) (k51 : ∀ {h : PH} {a0 : Nat} {x1 : Int32} {x2 : Int32} {x3 : Int32} {H : Heap} {locs : List Loc} {ls : Array Slot}, HS g s H locs h → r51 h a0 x1 x2 x3 = some h' → lv_has ls 4 [(0, .ref (gB g + a0)), (1, .int x1), (2, .int x2), (3, .int x3)] → W p l e (rmD 1 0 0) s m args below meth c H locs 0 0 (MQ below (QcV g h') args s 0 0 (aB g)) (F0 m 51 ls [])) {h : PH} {a0 : Nat} {x1 : Int32} {x2 : Int32} {x3 : Int32} {H : Heap} {locs : List Loc} {ls : Array Slot} (hH : HS g s H locs h) (hf : mX2_closeKin_b51 r44 r51 h a0 x1 x2 x3 = some h') (hl : lv_has ls 4 [(0, .ref (gB g + a0)), (1, .int x1), (2, .int x2), (3, .int x3)]) : W p l e (rmD 1 0 0) s m args below meth c H locs 0 0 (MQ below (QcV g h') args s 0 0 (aB g)) (F0 m 51 ls []) := by
  obtain ⟨⟨hx, hb, hml, hown, hts⟩, htb, hlk, hkk, hbs⟩ := id C
  unfold mX2_closeKin_b51 at hf
  refine lv_iload_n hx hb dX2_closeKin_51 rfl (lv_at hl 3 rfl) ?_
  refine lv_iload_n hx hb dX2_closeKin_52 rfl (lv_at hl 1 rfl) ?_
  refine lv_icmp_ge (tgt := 86) hx hb dX2_closeKin_53 (by decide) (fun cn => ?_) (fun cn => ?_)
  · have hf := (if_pos cn).symm.trans hf
    refine lv_iinc (v := (x2 + 1)) (lv' := [(2, .int (x2 + 1)), (0, .ref (gB g + a0)), (1, .int x1), (3, .int x3)]) hx hb dX2_closeKin_86 hl (k := 2) rfl rfl (by decide) rfl (fun ls hl => ?_)
    refine lv_goto (tgt := 44) hx hb dX2_closeKin_89 (by decide) ?_
    exact k44 hH hf (lv_sub hl [1, 2, 0] rfl)
  · have hf := (if_neg cn).symm.trans hf
    refine lv_aload_n hx hb dX2_closeKin_56 rfl (lv_at hl 0 rfl) ?_
    refine lv_iload_n hx hb dX2_closeKin_57 rfl (lv_at hl 3 rfl) ?_
    refine lv_iload_n hx hb dX2_closeKin_58 rfl (lv_at hl 2 rfl) ?_
    refine pg_Vi (As := [.int x3, .int x2]) C hH mi_X2_areKin vl_X2_57 (q := (RX2, TX2, 8)) (ci := 2) rfl rfl hf (fun _ e1 => (oO_sp e1).1) (fun _ _ e1 => c_X2_areKin e1) rfl rfl hl.1 (Nat.le_of_ble_eq_true rfl) ⟨Nat.le_of_ble_eq_true rfl, Nat.le_of_ble_eq_true rfl⟩ ⟨Nat.zero_le _, Nat.zero_le _⟩ dX2_closeKin_59 (fun H locs v59 h59 hH hf => ?_)
    refine lv_if_eq (tgt := 80) hx hb dX2_closeKin_62 (by decide) (fun cn => ?_) (fun cn => ?_)
    · have hf := (if_pos cn).symm.trans hf
      refine lv_iinc (v := (x3 + 1)) (lv' := [(3, .int (x3 + 1)), (0, .ref (gB g + a0)), (1, .int x1), (2, .int x2)]) hx hb dX2_closeKin_80 hl (k := 3) rfl rfl (by decide) rfl (fun ls hl => ?_)
      refine lv_goto (tgt := 51) hx hb dX2_closeKin_83 (by decide) ?_
      exact k51 hH hf (lv_sub hl [1, 2, 3, 0] rfl)
    · have hf := (if_neg cn).symm.trans hf
      refine lv_aload_n hx hb dX2_closeKin_65 rfl (lv_at hl 0 rfl) ?_
      refine pg_gR C hH fl_X2_9 hf dX2_closeKin_66 (fun v66 hf => ?_)
      refine lv_iload_n hx hb dX2_closeKin_69 rfl (lv_at hl 3 rfl) ?_
      refine lv_dup2_11 hx hb dX2_closeKin_70 rfl rfl ?_
      refine pg_aI C hH hf dX2_closeKin_71 (fun v71 hf => ?_)
      refine lv_aload_n hx hb dX2_closeKin_72 rfl (lv_at hl 0 rfl) ?_
      refine pg_gR C hH fl_X2_9 hf dX2_closeKin_73 (fun v73 hf => ?_)
      refine lv_iload_n hx hb dX2_closeKin_76 rfl (lv_at hl 2 rfl) ?_
      refine pg_aI C hH hf dX2_closeKin_77 (fun v77 hf => ?_)
      refine lv_ior hx hb dX2_closeKin_78 ?_
      refine pg_sI C hH hf dX2_closeKin_79 (fun H locs h79 hH hf => ?_)
      refine lv_iinc (v := (x3 + 1)) (lv' := [(3, .int (x3 + 1)), (0, .ref (gB g + a0)), (1, .int x1), (2, .int x2)]) hx hb dX2_closeKin_80 hl (k := 3) rfl rfl (by decide) rfl (fun ls hl => ?_)
      refine lv_goto (tgt := 51) hx hb dX2_closeKin_83 (by decide) ?_
      exact k51 hH hf (lv_sub hl [1, 2, 3, 0] rfl)
set_option maxHeartbeats 4000000 in
set_option maxRecDepth 100000 in
theorem wX2_closeKin_L51 {r44 : PH → Nat → Int32 → Int32 → Option (PH)} {h' : PH} (C : CT g RX2 cX2_closeKin 4 (Cond.code yX2_closeKin cX2_closeKin 4 (none) :: TB) p s m args meth c) (hr : meth.sig.returnType = none) (k44 : ∀ {h : PH} {a0 : Nat} {x1 : Int32} {x2 : Int32} {H : Heap} {locs : List Loc} {ls : Array Slot}, HS g s H locs h → r44 h a0 x1 x2 = some h' → lv_has ls 4 [(0, .ref (gB g + a0)), (1, .int x1), (2, .int x2)] → W p l e (rmD 1 0 0) s m args below meth c H locs 0 0 (MQ below (QcV g h') args s 0 0 (aB g)) (F0 m 44 ls [])) : ∀ (n : Nat) {h : PH} {a0 : Nat} {x1 : Int32} {x2 : Int32} {x3 : Int32} {H : Heap} {locs : List Loc} {ls : Array Slot}, HS g s H locs h → mX2_closeKin_L51 r44 n h a0 x1 x2 x3 = some h' → lv_has ls 4 [(0, .ref (gB g + a0)), (1, .int x1), (2, .int x2), (3, .int x3)] → W p l e (rmD 1 0 0) s m args below meth c H locs 0 0 (MQ below (QcV g h') args s 0 0 (aB g)) (F0 m 51 ls []) := by
  intro n
  induction n with
  | zero =>
    intro h a0 x1 x2 x3 H locs ls hH hf hl
    exact absurd hf (by intro z; cases z)
  | succ n ih =>
    intro h a0 x1 x2 x3 H locs ls hH hf hl
    have hf : mX2_closeKin_b51 r44 (mX2_closeKin_L51 r44 n) h a0 x1 x2 x3 = some h' := hf
    exact wX2_closeKin_b51 C hr k44 (fun a b c => ih a b c) hH hf hl
set_option maxHeartbeats 4000000 in
set_option maxRecDepth 100000 in
theorem wX2_closeKin_b44 {r44 : PH → Nat → Int32 → Int32 → Option (PH)} {h' : PH} (C : CT g RX2 cX2_closeKin 4 (Cond.code yX2_closeKin cX2_closeKin 4 (none) :: TB) p s m args meth c) (hr : meth.sig.returnType = none) (k44 : ∀ {h : PH} {a0 : Nat} {x1 : Int32} {x2 : Int32} {H : Heap} {locs : List Loc} {ls : Array Slot}, HS g s H locs h → r44 h a0 x1 x2 = some h' → lv_has ls 4 [(0, .ref (gB g + a0)), (1, .int x1), (2, .int x2)] → W p l e (rmD 1 0 0) s m args below meth c H locs 0 0 (MQ below (QcV g h') args s 0 0 (aB g)) (F0 m 44 ls [])) {h : PH} {a0 : Nat} {x1 : Int32} {x2 : Int32} {H : Heap} {locs : List Loc} {ls : Array Slot} (hH : HS g s H locs h) (hf : mX2_closeKin_b44 r44 h a0 x1 x2 = some h') (hl : lv_has ls 4 [(0, .ref (gB g + a0)), (1, .int x1), (2, .int x2)]) : W p l e (rmD 1 0 0) s m args below meth c H locs 0 0 (MQ below (QcV g h') args s 0 0 (aB g)) (F0 m 44 ls []) := by
  obtain ⟨⟨hx, hb, hml, hown, hts⟩, htb, hlk, hkk, hbs⟩ := id C
  unfold mX2_closeKin_b44 at hf
  refine lv_iload_n hx hb dX2_closeKin_44 rfl (lv_at hl 2 rfl) ?_
  refine lv_iload_n hx hb dX2_closeKin_45 rfl (lv_at hl 1 rfl) ?_
  refine lv_icmp_ge (tgt := 92) hx hb dX2_closeKin_46 (by decide) (fun cn => ?_) (fun cn => ?_)
  · have hf := (if_pos cn).symm.trans hf
    exact pg_vret C hr hH hf dX2_closeKin_92
  · have hf := (if_neg cn).symm.trans hf
    refine lv_iconst (v := (0 : Int32)) hx hb dX2_closeKin_49 (by decide) ?_
    refine lv_istore_n (lv' := [(3, .int (0 : Int32)), (0, .ref (gB g + a0)), (1, .int x1), (2, .int x2)]) hx hb dX2_closeKin_50 rfl hl (by decide) rfl (fun ls hl => ?_)
    exact wX2_closeKin_L51 C hr k44 FU hH hf (lv_sub hl [1, 2, 3, 0] rfl)
set_option maxHeartbeats 4000000 in
set_option maxRecDepth 100000 in
theorem wX2_closeKin_L44 {h' : PH} (C : CT g RX2 cX2_closeKin 4 (Cond.code yX2_closeKin cX2_closeKin 4 (none) :: TB) p s m args meth c) (hr : meth.sig.returnType = none) : ∀ (n : Nat) {h : PH} {a0 : Nat} {x1 : Int32} {x2 : Int32} {H : Heap} {locs : List Loc} {ls : Array Slot}, HS g s H locs h → mX2_closeKin_L44 n h a0 x1 x2 = some h' → lv_has ls 4 [(0, .ref (gB g + a0)), (1, .int x1), (2, .int x2)] → W p l e (rmD 1 0 0) s m args below meth c H locs 0 0 (MQ below (QcV g h') args s 0 0 (aB g)) (F0 m 44 ls []) := by
  intro n
  induction n with
  | zero =>
    intro h a0 x1 x2 H locs ls hH hf hl
    exact absurd hf (by intro z; cases z)
  | succ n ih =>
    intro h a0 x1 x2 H locs ls hH hf hl
    have hf : mX2_closeKin_b44 (mX2_closeKin_L44 n) h a0 x1 x2 = some h' := hf
    exact wX2_closeKin_b44 C hr (fun a b c => ih a b c) hH hf hl
set_option maxHeartbeats 4000000 in
set_option maxRecDepth 100000 in
theorem wX2_closeKin_b12 {r12 : PH → Nat → Int32 → Int32 → Option (PH)} {h' : PH} (C : CT g RX2 cX2_closeKin 4 (Cond.code yX2_closeKin cX2_closeKin 4 (none) :: TB) p s m args meth c) (hr : meth.sig.returnType = none) (k12 : ∀ {h : PH} {a0 : Nat} {x1 : Int32} {x2 : Int32} {H : Heap} {locs : List Loc} {ls : Array Slot}, HS g s H locs h → r12 h a0 x1 x2 = some h' → lv_has ls 4 [(0, .ref (gB g + a0)), (1, .int x1), (2, .int x2)] → W p l e (rmD 1 0 0) s m args below meth c H locs 0 0 (MQ below (QcV g h') args s 0 0 (aB g)) (F0 m 12 ls [])) {h : PH} {a0 : Nat} {x1 : Int32} {x2 : Int32} {H : Heap} {locs : List Loc} {ls : Array Slot} (hH : HS g s H locs h) (hf : mX2_closeKin_b12 r12 h a0 x1 x2 = some h') (hl : lv_has ls 4 [(0, .ref (gB g + a0)), (1, .int x1), (2, .int x2)]) : W p l e (rmD 1 0 0) s m args below meth c H locs 0 0 (MQ below (QcV g h') args s 0 0 (aB g)) (F0 m 12 ls []) := by
  obtain ⟨⟨hx, hb, hml, hown, hts⟩, htb, hlk, hkk, hbs⟩ := id C
  unfold mX2_closeKin_b12 at hf
  refine lv_iload_n hx hb dX2_closeKin_12 rfl (lv_at hl 2 rfl) ?_
  refine lv_iload_n hx hb dX2_closeKin_13 rfl (lv_at hl 1 rfl) ?_
  refine lv_icmp_ge (tgt := 42) hx hb dX2_closeKin_14 (by decide) (fun cn => ?_) (fun cn => ?_)
  · have hf := (if_pos cn).symm.trans hf
    refine lv_iconst (v := (0 : Int32)) hx hb dX2_closeKin_42 (by decide) ?_
    refine lv_istore_n (lv' := [(2, .int (0 : Int32)), (0, .ref (gB g + a0)), (1, .int x1)]) hx hb dX2_closeKin_43 rfl hl (by decide) rfl (fun ls hl => ?_)
    exact wX2_closeKin_L44 C hr FU hH hf (lv_sub hl [1, 2, 0] rfl)
  · have hf := (if_neg cn).symm.trans hf
    refine lv_aload_n hx hb dX2_closeKin_17 rfl (lv_at hl 0 rfl) ?_
    refine pg_gR C hH fl_X2_9 hf dX2_closeKin_18 (fun v18 hf => ?_)
    refine lv_iload_n hx hb dX2_closeKin_21 rfl (lv_at hl 2 rfl) ?_
    refine lv_aload_n hx hb dX2_closeKin_22 rfl (lv_at hl 0 rfl) ?_
    refine pg_gR C hH fl_X2_38 hf dX2_closeKin_23 (fun v23 hf => ?_)
    refine pg_gR C hH fl_X2_76 hf dX2_closeKin_26 (fun v26 hf => ?_)
    refine lv_iload_n hx hb dX2_closeKin_29 rfl (lv_at hl 2 rfl) ?_
    refine pg_aI C hH hf dX2_closeKin_30 (fun v30 hf => ?_)
    refine lv_iconst (v := (1 : Int32)) hx hb dX2_closeKin_31 (by decide) ?_
    refine lv_iload_n hx hb dX2_closeKin_32 rfl (lv_at hl 2 rfl) ?_
    refine lv_ishl hx hb dX2_closeKin_33 ?_
    refine lv_ior hx hb dX2_closeKin_34 ?_
    refine pg_sI C hH hf dX2_closeKin_35 (fun H locs h35 hH hf => ?_)
    refine lv_iinc (v := (x2 + 1)) (lv' := [(2, .int (x2 + 1)), (0, .ref (gB g + a0)), (1, .int x1)]) hx hb dX2_closeKin_36 hl (k := 2) rfl rfl (by decide) rfl (fun ls hl => ?_)
    refine lv_goto (tgt := 12) hx hb dX2_closeKin_39 (by decide) ?_
    exact k12 hH hf (lv_sub hl [1, 2, 0] rfl)
set_option maxHeartbeats 4000000 in
set_option maxRecDepth 100000 in
theorem wX2_closeKin_L12 {h' : PH} (C : CT g RX2 cX2_closeKin 4 (Cond.code yX2_closeKin cX2_closeKin 4 (none) :: TB) p s m args meth c) (hr : meth.sig.returnType = none) : ∀ (n : Nat) {h : PH} {a0 : Nat} {x1 : Int32} {x2 : Int32} {H : Heap} {locs : List Loc} {ls : Array Slot}, HS g s H locs h → mX2_closeKin_L12 n h a0 x1 x2 = some h' → lv_has ls 4 [(0, .ref (gB g + a0)), (1, .int x1), (2, .int x2)] → W p l e (rmD 1 0 0) s m args below meth c H locs 0 0 (MQ below (QcV g h') args s 0 0 (aB g)) (F0 m 12 ls []) := by
  intro n
  induction n with
  | zero =>
    intro h a0 x1 x2 H locs ls hH hf hl
    exact absurd hf (by intro z; cases z)
  | succ n ih =>
    intro h a0 x1 x2 H locs ls hH hf hl
    have hf : mX2_closeKin_b12 (mX2_closeKin_L12 n) h a0 x1 x2 = some h' := hf
    exact wX2_closeKin_b12 C hr (fun a b c => ih a b c) hH hf hl
set_option maxHeartbeats 4000000 in
set_option maxRecDepth 100000 in
theorem c_X2_closeKin {l : Launch} {g : GD} {h : PH} {a0 : Nat} {h' : PH} (hf : mX2_closeKin h a0 = some h') : Met l yX2_closeKin (Cond.code yX2_closeKin cX2_closeKin 4 (none) :: TB) (rmD 1 0 0) (PcH g [.ref (gB g + a0)] h) (QcV g h') 0 0 (aB g) := by
  refine Met.ofW (cc := cX2_closeKin) (maxL := 4) (ret := none) (by decide) rfl ?_
  intro p e s m args below meth c s₁ B hml hv
  obtain ⟨rfl, hH0, hkk0⟩ := hv
  have C : CT g RX2 cX2_closeKin 4 (Cond.code yX2_closeKin cX2_closeKin 4 (none) :: TB) p s m _ meth c := pg_ct (Tw := []) B hml hH0 hkk0
  have hr := B.returns
  have hH : HS g s s.heap [] h := ⟨hH0, va_S.rf⟩
  have hl := lv_entry ([.ref (gB g + a0)]) (n := 4) (Nat.le_of_ble_eq_true rfl)
  rw [lg_entry_eq]
  generalize (lg_sl ([.ref (gB g + a0)]) ++ List.replicate (4 - (lg_sl ([.ref (gB g + a0)])).length) Slot.unset).toArray = ls at hl ⊢
  have hl : lv_has ls 4 [(0, .ref (gB g + a0))] := hl
  show W p l e (rmD 1 0 0) _ _ _ _ _ _ _ _ _ _ _ _
  unfold mX2_closeKin at hf
  obtain ⟨hO, hf⟩ := oO_sp hf
  obtain ⟨⟨hx, hb, hml, hown, hts⟩, htb, hlk, hkk, hbs⟩ := id C
  refine lv_aload_n hx hb dX2_closeKin_0 rfl (lv_at hl 0 rfl) ?_
  refine pg_gR C hH fl_X2_38 hf dX2_closeKin_1 (fun v1 hf => ?_)
  refine pg_gR C hH fl_X2_45 hf dX2_closeKin_4 (fun v4 hf => ?_)
  refine lv_iconst (v := (0 : Int32)) hx hb dX2_closeKin_7 (by decide) ?_
  refine pg_aI C hH hf dX2_closeKin_8 (fun v8 hf => ?_)
  refine lv_istore_n (lv' := [(1, .int v8), (0, .ref (gB g + a0))]) hx hb dX2_closeKin_9 rfl hl (by decide) rfl (fun ls hl => ?_)
  refine lv_iconst (v := (0 : Int32)) hx hb dX2_closeKin_10 (by decide) ?_
  refine lv_istore_n (lv' := [(2, .int (0 : Int32)), (1, .int v8), (0, .ref (gB g + a0))]) hx hb dX2_closeKin_11 rfl hl (by decide) rfl (fun ls hl => ?_)
  exact wX2_closeKin_L12 C hr FU hH hf (lv_sub hl [2, 1, 0] rfl)
set_option maxHeartbeats 4000000 in
set_option maxRecDepth 100000 in
theorem wJ7_fill_53178_b5 {r5 : PH → Nat → Int32 → Int32 → Int32 → Option (PH)} {h' : PH} (C : CT g RJ7 cJ7_fill_53178 4 (Cond.code yJ7_fill_53178 cJ7_fill_53178 4 (none) :: TB) p s m args meth c) (hr : meth.sig.returnType = none) (k5 : ∀ {h : PH} {a0 : Nat} {x1 : Int32} {x2 : Int32} {x3 : Int32} {H : Heap} {locs : List Loc} {ls : Array Slot}, HS g s H locs h → r5 h a0 x1 x2 x3 = some h' → lv_has ls 4 [(0, .ref (gB g + a0)), (1, .int x1), (2, .int x2), (3, .int x3)] → W p l e (rmD 0 0 0) s m args below meth c H locs 0 0 (MQ below (QcV g h') args s 0 0 (aB g)) (F0 m 5 ls [])) {h : PH} {a0 : Nat} {x1 : Int32} {x2 : Int32} {x3 : Int32} {H : Heap} {locs : List Loc} {ls : Array Slot} (hH : HS g s H locs h) (hf : mJ7_fill_53178_b5 r5 h a0 x1 x2 x3 = some h') (hl : lv_has ls 4 [(0, .ref (gB g + a0)), (1, .int x1), (2, .int x2), (3, .int x3)]) : W p l e (rmD 0 0 0) s m args below meth c H locs 0 0 (MQ below (QcV g h') args s 0 0 (aB g)) (F0 m 5 ls []) := by
  obtain ⟨⟨hx, hb, hml, hown, hts⟩, htb, hlk, hkk, hbs⟩ := id C
  unfold mJ7_fill_53178_b5 at hf
  refine lv_iload_n hx hb dJ7_fill_53178_5 rfl (lv_at hl 2 rfl) ?_
  refine lv_iload_n hx hb dJ7_fill_53178_6 rfl (lv_at hl 3 rfl) ?_
  refine lv_icmp_ge (tgt := 20) hx hb dJ7_fill_53178_7 (by decide) (fun cn => ?_) (fun cn => ?_)
  · have hf := (if_pos cn).symm.trans hf
    exact pg_vret C hr hH hf dJ7_fill_53178_20
  · have hf := (if_neg cn).symm.trans hf
    refine lv_aload_n hx hb dJ7_fill_53178_10 rfl (lv_at hl 0 rfl) ?_
    refine lv_iload_n hx hb dJ7_fill_53178_11 rfl (lv_at hl 2 rfl) ?_
    refine lv_iload_n hx hb dJ7_fill_53178_12 rfl (lv_at hl 1 rfl) ?_
    refine pg_sI C hH hf dJ7_fill_53178_13 (fun H locs h13 hH hf => ?_)
    refine lv_iinc (v := (x2 + 1)) (lv' := [(2, .int (x2 + 1)), (0, .ref (gB g + a0)), (1, .int x1), (3, .int x3)]) hx hb dJ7_fill_53178_14 hl (k := 2) rfl rfl (by decide) rfl (fun ls hl => ?_)
    refine lv_goto (tgt := 5) hx hb dJ7_fill_53178_17 (by decide) ?_
    exact k5 hH hf (lv_sub hl [1, 2, 0, 3] rfl)
set_option maxHeartbeats 4000000 in
set_option maxRecDepth 100000 in
theorem wJ7_fill_53178_L5 {h' : PH} (C : CT g RJ7 cJ7_fill_53178 4 (Cond.code yJ7_fill_53178 cJ7_fill_53178 4 (none) :: TB) p s m args meth c) (hr : meth.sig.returnType = none) : ∀ (n : Nat) {h : PH} {a0 : Nat} {x1 : Int32} {x2 : Int32} {x3 : Int32} {H : Heap} {locs : List Loc} {ls : Array Slot}, HS g s H locs h → mJ7_fill_53178_L5 n h a0 x1 x2 x3 = some h' → lv_has ls 4 [(0, .ref (gB g + a0)), (1, .int x1), (2, .int x2), (3, .int x3)] → W p l e (rmD 0 0 0) s m args below meth c H locs 0 0 (MQ below (QcV g h') args s 0 0 (aB g)) (F0 m 5 ls []) := by
  intro n
  induction n with
  | zero =>
    intro h a0 x1 x2 x3 H locs ls hH hf hl
    exact absurd hf (by intro z; cases z)
  | succ n ih =>
    intro h a0 x1 x2 x3 H locs ls hH hf hl
    have hf : mJ7_fill_53178_b5 (mJ7_fill_53178_L5 n) h a0 x1 x2 x3 = some h' := hf
    exact wJ7_fill_53178_b5 C hr (fun a b c => ih a b c) hH hf hl
set_option maxHeartbeats 4000000 in
set_option maxRecDepth 100000 in
theorem c_J7_fill_53178 {l : Launch} {g : GD} {h : PH} {a0 : Nat} {x1 : Int32} {h' : PH} (hf : mJ7_fill_53178 h a0 x1 = some h') : Met l yJ7_fill_53178 (Cond.code yJ7_fill_53178 cJ7_fill_53178 4 (none) :: TB) (rmD 0 0 0) (PcH g [.ref (gB g + a0), .int x1] h) (QcV g h') 0 0 (aB g) := by
  refine Met.ofW (cc := cJ7_fill_53178) (maxL := 4) (ret := none) (by decide) rfl ?_
  intro p e s m args below meth c s₁ B hml hv
  obtain ⟨rfl, hH0, hkk0⟩ := hv
  have C : CT g RJ7 cJ7_fill_53178 4 (Cond.code yJ7_fill_53178 cJ7_fill_53178 4 (none) :: TB) p s m _ meth c := pg_ct (Tw := []) B hml hH0 hkk0
  have hr := B.returns
  have hH : HS g s s.heap [] h := ⟨hH0, va_S.rf⟩
  have hl := lv_entry ([.ref (gB g + a0), .int x1]) (n := 4) (Nat.le_of_ble_eq_true rfl)
  rw [lg_entry_eq]
  generalize (lg_sl ([.ref (gB g + a0), .int x1]) ++ List.replicate (4 - (lg_sl ([.ref (gB g + a0), .int x1])).length) Slot.unset).toArray = ls at hl ⊢
  have hl : lv_has ls 4 [(0, .ref (gB g + a0)), (1, .int x1)] := hl
  show W p l e (rmD 0 0 0) _ _ _ _ _ _ _ _ _ _ _ _
  unfold mJ7_fill_53178 at hf
  obtain ⟨⟨hx, hb, hml, hown, hts⟩, htb, hlk, hkk, hbs⟩ := id C
  refine lv_iconst (v := (0 : Int32)) hx hb dJ7_fill_53178_0 (by decide) ?_
  refine lv_istore_n (lv' := [(2, .int (0 : Int32)), (0, .ref (gB g + a0)), (1, .int x1)]) hx hb dJ7_fill_53178_1 rfl hl (by decide) rfl (fun ls hl => ?_)
  refine lv_aload_n hx hb dJ7_fill_53178_2 rfl (lv_at hl 1 rfl) ?_
  refine pg_aN C hH (by decide) hf dJ7_fill_53178_3 (fun v3 hf => ?_)
  refine lv_istore_n (lv' := [(3, .int v3), (2, .int (0 : Int32)), (0, .ref (gB g + a0)), (1, .int x1)]) hx hb dJ7_fill_53178_4 rfl hl (by decide) rfl (fun ls hl => ?_)
  exact wJ7_fill_53178_L5 C hr FU hH hf (lv_sub hl [2, 3, 1, 0] rfl)
set_option maxHeartbeats 4000000 in
set_option maxRecDepth 100000 in
theorem wX2_firstUser_b44 {r5 : PH → Nat → Int32 → Int32 → Int32 → Int32 → Option (Int32 × PH)} {r : Int32} {h' : PH} (C : CT g RX2 cX2_firstUser 6 (Cond.code yX2_firstUser cX2_firstUser 6 (some .int) :: TB) p s m args meth c) (hr : meth.sig.returnType = some .int) (k5 : ∀ {h : PH} {a0 : Nat} {x1 : Int32} {x2 : Int32} {x3 : Int32} {x4 : Int32} {H : Heap} {locs : List Loc} {ls : Array Slot}, HS g s H locs h → r5 h a0 x1 x2 x3 x4 = some (r, h') → lv_has ls 6 [(0, .ref (gB g + a0)), (1, .int x1), (2, .int x2), (3, .int x3), (4, .int x4)] → W p l e (rmD 0 0 0) s m args below meth c H locs 0 0 (MQ below (QcI g r h') args s 0 0 (aB g)) (F0 m 5 ls [])) {h : PH} {a0 : Nat} {x1 : Int32} {x2 : Int32} {x3 : Int32} {x4 : Int32} {s0 : Int32} {H : Heap} {locs : List Loc} {ls : Array Slot} (hH : HS g s H locs h) (hf : mX2_firstUser_b44 r5 h a0 x1 x2 x3 x4 s0 = some (r, h')) (hl : lv_has ls 6 [(0, .ref (gB g + a0)), (1, .int x1), (2, .int x2), (3, .int x3), (4, .int x4)]) : W p l e (rmD 0 0 0) s m args below meth c H locs 0 0 (MQ below (QcI g r h') args s 0 0 (aB g)) (F0 m 44 ls [.int s0]) := by
  obtain ⟨⟨hx, hb, hml, hown, hts⟩, htb, hlk, hkk, hbs⟩ := id C
  unfold mX2_firstUser_b44 at hf
  refine lv_istore (lv' := [(5, .int s0), (0, .ref (gB g + a0)), (1, .int x1), (2, .int x2), (3, .int x3), (4, .int x4)]) hx hb dX2_firstUser_44 hl (by decide) rfl (fun ls hl => ?_)
  refine lv_iload hx hb dX2_firstUser_46 (lv_at hl 0 rfl) ?_
  refine lv_if_eq (tgt := 106) hx hb dX2_firstUser_48 (by decide) (fun cn => ?_) (fun cn => ?_)
  · have hf := (if_pos cn).symm.trans hf
    refine lv_iinc (v := (x4 + 1)) (lv' := [(4, .int (x4 + 1)), (5, .int s0), (0, .ref (gB g + a0)), (1, .int x1), (2, .int x2), (3, .int x3)]) hx hb dX2_firstUser_106 hl (k := 5) rfl rfl (by decide) rfl (fun ls hl => ?_)
    refine lv_goto (tgt := 5) hx hb dX2_firstUser_109 (by decide) ?_
    exact k5 hH hf (lv_sub hl [2, 3, 4, 5, 0] rfl)
  · have hf := (if_neg cn).symm.trans hf
    refine lv_iload hx hb dX2_firstUser_51 (lv_at hl 5 rfl) ?_
    refine lv_aload_n hx hb dX2_firstUser_53 rfl (lv_at hl 1 rfl) ?_
    refine pg_gI C hH fl_X2_19 hf dX2_firstUser_54 (fun v54 hf => ?_)
    refine lv_icmp_eq (tgt := 106) hx hb dX2_firstUser_57 (by decide) (fun cn => ?_) (fun cn => ?_)
    · have hf := (if_pos cn).symm.trans hf
      refine lv_iinc (v := (x4 + 1)) (lv' := [(4, .int (x4 + 1)), (5, .int s0), (0, .ref (gB g + a0)), (1, .int x1), (2, .int x2), (3, .int x3)]) hx hb dX2_firstUser_106 hl (k := 5) rfl rfl (by decide) rfl (fun ls hl => ?_)
      refine lv_goto (tgt := 5) hx hb dX2_firstUser_109 (by decide) ?_
      exact k5 hH hf (lv_sub hl [2, 3, 4, 5, 0] rfl)
    · have hf := (if_neg cn).symm.trans hf
      refine lv_iload_n hx hb dX2_firstUser_60 rfl (lv_at hl 3 rfl) ?_
      refine lv_iload hx hb dX2_firstUser_61 (lv_at hl 5 rfl) ?_
      refine lv_ishr hx hb dX2_firstUser_63 ?_
      refine lv_iconst (v := (1 : Int32)) hx hb dX2_firstUser_64 (by decide) ?_
      refine lv_iand hx hb dX2_firstUser_65 ?_
      refine lv_if_eq (tgt := 72) hx hb dX2_firstUser_66 (by decide) (fun cn => ?_) (fun cn => ?_)
      · have hf := (if_pos cn).symm.trans hf
        refine lv_iload_n hx hb dX2_firstUser_72 rfl (lv_at hl 4 rfl) ?_
        refine lv_iconst (v := (-1 : Int32)) hx hb dX2_firstUser_73 (by decide) ?_
        refine lv_icmp_eq (tgt := 103) hx hb dX2_firstUser_74 (by decide) (fun cn => ?_) (fun cn => ?_)
        · have hf := (if_pos cn).symm.trans hf
          refine lv_iload hx hb dX2_firstUser_103 (lv_at hl 5 rfl) ?_
          refine lv_istore_n (lv' := [(3, .int x4), (5, .int s0), (0, .ref (gB g + a0)), (1, .int x1), (2, .int x2), (4, .int x4)]) hx hb dX2_firstUser_105 rfl hl (by decide) rfl (fun ls hl => ?_)
          refine lv_iinc (v := (x4 + 1)) (lv' := [(4, .int (x4 + 1)), (3, .int x4), (5, .int s0), (0, .ref (gB g + a0)), (1, .int x1), (2, .int x2)]) hx hb dX2_firstUser_106 hl (k := 5) rfl rfl (by decide) rfl (fun ls hl => ?_)
          refine lv_goto (tgt := 5) hx hb dX2_firstUser_109 (by decide) ?_
          exact k5 hH hf (lv_sub hl [3, 4, 5, 1, 0] rfl)
        · have hf := (if_neg cn).symm.trans hf
          refine lv_aload_n hx hb dX2_firstUser_77 rfl (lv_at hl 1 rfl) ?_
          refine pg_gR C hH fl_X2_38 hf dX2_firstUser_78 (fun v78 hf => ?_)
          refine pg_gR C hH fl_X2_54 hf dX2_firstUser_81 (fun v81 hf => ?_)
          refine lv_iload hx hb dX2_firstUser_84 (lv_at hl 5 rfl) ?_
          refine pg_aR C hH (Or.inr rfl) hf dX2_firstUser_86 (fun v86 hf => ?_)
          refine lv_iconst (v := (5 : Int32)) hx hb dX2_firstUser_87 (by decide) ?_
          refine pg_aI C hH hf dX2_firstUser_88 (fun v88 hf => ?_)
          refine lv_aload_n hx hb dX2_firstUser_89 rfl (lv_at hl 1 rfl) ?_
          refine pg_gR C hH fl_X2_38 hf dX2_firstUser_90 (fun v90 hf => ?_)
          refine pg_gR C hH fl_X2_54 hf dX2_firstUser_93 (fun v93 hf => ?_)
          refine lv_iload_n hx hb dX2_firstUser_96 rfl (lv_at hl 4 rfl) ?_
          refine pg_aR C hH (Or.inr rfl) hf dX2_firstUser_97 (fun v97 hf => ?_)
          refine lv_iconst (v := (5 : Int32)) hx hb dX2_firstUser_98 (by decide) ?_
          refine pg_aI C hH hf dX2_firstUser_99 (fun v99 hf => ?_)
          refine lv_icmp_ge (tgt := 106) hx hb dX2_firstUser_100 (by decide) (fun cn => ?_) (fun cn => ?_)
          · have hf := (if_pos cn).symm.trans hf
            refine lv_iinc (v := (x4 + 1)) (lv' := [(4, .int (x4 + 1)), (5, .int s0), (0, .ref (gB g + a0)), (1, .int x1), (2, .int x2), (3, .int x3)]) hx hb dX2_firstUser_106 hl (k := 5) rfl rfl (by decide) rfl (fun ls hl => ?_)
            refine lv_goto (tgt := 5) hx hb dX2_firstUser_109 (by decide) ?_
            exact k5 hH hf (lv_sub hl [2, 3, 4, 5, 0] rfl)
          · have hf := (if_neg cn).symm.trans hf
            refine lv_iload hx hb dX2_firstUser_103 (lv_at hl 5 rfl) ?_
            refine lv_istore_n (lv' := [(3, .int x4), (5, .int s0), (0, .ref (gB g + a0)), (1, .int x1), (2, .int x2), (4, .int x4)]) hx hb dX2_firstUser_105 rfl hl (by decide) rfl (fun ls hl => ?_)
            refine lv_iinc (v := (x4 + 1)) (lv' := [(4, .int (x4 + 1)), (3, .int x4), (5, .int s0), (0, .ref (gB g + a0)), (1, .int x1), (2, .int x2)]) hx hb dX2_firstUser_106 hl (k := 5) rfl rfl (by decide) rfl (fun ls hl => ?_)
            refine lv_goto (tgt := 5) hx hb dX2_firstUser_109 (by decide) ?_
            exact k5 hH hf (lv_sub hl [3, 4, 5, 1, 0] rfl)
      · have hf := (if_neg cn).symm.trans hf
        refine lv_goto (tgt := 106) hx hb dX2_firstUser_69 (by decide) ?_
        refine lv_iinc (v := (x4 + 1)) (lv' := [(4, .int (x4 + 1)), (5, .int s0), (0, .ref (gB g + a0)), (1, .int x1), (2, .int x2), (3, .int x3)]) hx hb dX2_firstUser_106 hl (k := 5) rfl rfl (by decide) rfl (fun ls hl => ?_)
        refine lv_goto (tgt := 5) hx hb dX2_firstUser_109 (by decide) ?_
        exact k5 hH hf (lv_sub hl [2, 3, 4, 5, 0] rfl)
set_option maxHeartbeats 4000000 in
set_option maxRecDepth 100000 in
theorem wX2_firstUser_b5 {r5 : PH → Nat → Int32 → Int32 → Int32 → Int32 → Option (Int32 × PH)} {r : Int32} {h' : PH} (C : CT g RX2 cX2_firstUser 6 (Cond.code yX2_firstUser cX2_firstUser 6 (some .int) :: TB) p s m args meth c) (hr : meth.sig.returnType = some .int) (k5 : ∀ {h : PH} {a0 : Nat} {x1 : Int32} {x2 : Int32} {x3 : Int32} {x4 : Int32} {H : Heap} {locs : List Loc} {ls : Array Slot}, HS g s H locs h → r5 h a0 x1 x2 x3 x4 = some (r, h') → lv_has ls 6 [(0, .ref (gB g + a0)), (1, .int x1), (2, .int x2), (3, .int x3), (4, .int x4)] → W p l e (rmD 0 0 0) s m args below meth c H locs 0 0 (MQ below (QcI g r h') args s 0 0 (aB g)) (F0 m 5 ls [])) {h : PH} {a0 : Nat} {x1 : Int32} {x2 : Int32} {x3 : Int32} {x4 : Int32} {H : Heap} {locs : List Loc} {ls : Array Slot} (hH : HS g s H locs h) (hf : mX2_firstUser_b5 r5 h a0 x1 x2 x3 x4 = some (r, h')) (hl : lv_has ls 6 [(0, .ref (gB g + a0)), (1, .int x1), (2, .int x2), (3, .int x3), (4, .int x4)]) : W p l e (rmD 0 0 0) s m args below meth c H locs 0 0 (MQ below (QcI g r h') args s 0 0 (aB g)) (F0 m 5 ls []) := by
  obtain ⟨⟨hx, hb, hml, hown, hts⟩, htb, hlk, hkk, hbs⟩ := id C
  unfold mX2_firstUser_b5 at hf
  refine lv_iload hx hb dX2_firstUser_5 (lv_at hl 4 rfl) ?_
  refine lv_aload_n hx hb dX2_firstUser_7 rfl (lv_at hl 0 rfl) ?_
  refine pg_gR C hH fl_X2_38 hf dX2_firstUser_8 (fun v8 hf => ?_)
  refine pg_gR C hH fl_X2_45 hf dX2_firstUser_11 (fun v11 hf => ?_)
  refine lv_iconst (v := (3 : Int32)) hx hb dX2_firstUser_14 (by decide) ?_
  refine pg_aI C hH hf dX2_firstUser_15 (fun v15 hf => ?_)
  refine lv_icmp_ge (tgt := 112) hx hb dX2_firstUser_16 (by decide) (fun cn => ?_) (fun cn => ?_)
  · have hf := (if_pos cn).symm.trans hf
    refine lv_iload_n hx hb dX2_firstUser_112 rfl (lv_at hl 3 rfl) ?_
    exact pg_iret C hr hH hf dX2_firstUser_113
  · have hf := (if_neg cn).symm.trans hf
    refine lv_aload_n hx hb dX2_firstUser_19 rfl (lv_at hl 0 rfl) ?_
    refine pg_gR C hH fl_X2_38 hf dX2_firstUser_20 (fun v20 hf => ?_)
    refine pg_gR C hH fl_X2_54 hf dX2_firstUser_23 (fun v23 hf => ?_)
    refine lv_iload hx hb dX2_firstUser_26 (lv_at hl 4 rfl) ?_
    refine pg_aR C hH (Or.inr rfl) hf dX2_firstUser_28 (fun v28 hf => ?_)
    refine lv_bipush (v := (11 : Int32)) hx hb dX2_firstUser_29 (by decide) ?_
    refine pg_aI C hH hf dX2_firstUser_31 (fun v31 hf => ?_)
    refine lv_iload_n hx hb dX2_firstUser_32 rfl (lv_at hl 1 rfl) ?_
    refine lv_ishr hx hb dX2_firstUser_33 ?_
    refine lv_iconst (v := (1 : Int32)) hx hb dX2_firstUser_34 (by decide) ?_
    refine lv_iand hx hb dX2_firstUser_35 ?_
    refine lv_if_eq (tgt := 43) hx hb dX2_firstUser_36 (by decide) (fun cn => ?_) (fun cn => ?_)
    · have hf := (if_pos cn).symm.trans hf
      refine lv_iconst (v := (0 : Int32)) hx hb dX2_firstUser_43 (by decide) ?_
      exact wX2_firstUser_b44 C hr k5 hH hf (lv_sub hl [0, 1, 2, 3, 4] rfl)
    · have hf := (if_neg cn).symm.trans hf
      refine lv_iconst (v := (1 : Int32)) hx hb dX2_firstUser_39 (by decide) ?_
      refine lv_goto (tgt := 44) hx hb dX2_firstUser_40 (by decide) ?_
      exact wX2_firstUser_b44 C hr k5 hH hf (lv_sub hl [0, 1, 2, 3, 4] rfl)
set_option maxHeartbeats 4000000 in
set_option maxRecDepth 100000 in
theorem wX2_firstUser_L5 {r : Int32} {h' : PH} (C : CT g RX2 cX2_firstUser 6 (Cond.code yX2_firstUser cX2_firstUser 6 (some .int) :: TB) p s m args meth c) (hr : meth.sig.returnType = some .int) : ∀ (n : Nat) {h : PH} {a0 : Nat} {x1 : Int32} {x2 : Int32} {x3 : Int32} {x4 : Int32} {H : Heap} {locs : List Loc} {ls : Array Slot}, HS g s H locs h → mX2_firstUser_L5 n h a0 x1 x2 x3 x4 = some (r, h') → lv_has ls 6 [(0, .ref (gB g + a0)), (1, .int x1), (2, .int x2), (3, .int x3), (4, .int x4)] → W p l e (rmD 0 0 0) s m args below meth c H locs 0 0 (MQ below (QcI g r h') args s 0 0 (aB g)) (F0 m 5 ls []) := by
  intro n
  induction n with
  | zero =>
    intro h a0 x1 x2 x3 x4 H locs ls hH hf hl
    exact absurd hf (by intro z; cases z)
  | succ n ih =>
    intro h a0 x1 x2 x3 x4 H locs ls hH hf hl
    have hf : mX2_firstUser_b5 (mX2_firstUser_L5 n) h a0 x1 x2 x3 x4 = some (r, h') := hf
    exact wX2_firstUser_b5 C hr (fun a b c => ih a b c) hH hf hl
set_option maxHeartbeats 4000000 in
set_option maxRecDepth 100000 in
theorem c_X2_firstUser {l : Launch} {g : GD} {h : PH} {a0 : Nat} {x1 : Int32} {x2 : Int32} {r : Int32} {h' : PH} (hf : mX2_firstUser h a0 x1 x2 = some (r, h')) : Met l yX2_firstUser (Cond.code yX2_firstUser cX2_firstUser 6 (some .int) :: TB) (rmD 0 0 0) (PcH g [.ref (gB g + a0), .int x1, .int x2] h) (QcI g r h') 0 0 (aB g) := by
  refine Met.ofW (cc := cX2_firstUser) (maxL := 6) (ret := some .int) (by decide) rfl ?_
  intro p e s m args below meth c s₁ B hml hv
  obtain ⟨rfl, hH0, hkk0⟩ := hv
  have C : CT g RX2 cX2_firstUser 6 (Cond.code yX2_firstUser cX2_firstUser 6 (some .int) :: TB) p s m _ meth c := pg_ct (Tw := []) B hml hH0 hkk0
  have hr := B.returns
  have hH : HS g s s.heap [] h := ⟨hH0, va_S.rf⟩
  have hl := lv_entry ([.ref (gB g + a0), .int x1, .int x2]) (n := 6) (Nat.le_of_ble_eq_true rfl)
  rw [lg_entry_eq]
  generalize (lg_sl ([.ref (gB g + a0), .int x1, .int x2]) ++ List.replicate (6 - (lg_sl ([.ref (gB g + a0), .int x1, .int x2])).length) Slot.unset).toArray = ls at hl ⊢
  have hl : lv_has ls 6 [(0, .ref (gB g + a0)), (1, .int x1), (2, .int x2)] := hl
  show W p l e (rmD 0 0 0) _ _ _ _ _ _ _ _ _ _ _ _
  unfold mX2_firstUser at hf
  obtain ⟨hO, hf⟩ := oO_sp hf
  obtain ⟨⟨hx, hb, hml, hown, hts⟩, htb, hlk, hkk, hbs⟩ := id C
  refine lv_iconst (v := (-1 : Int32)) hx hb dX2_firstUser_0 (by decide) ?_
  refine lv_istore_n (lv' := [(3, .int (-1 : Int32)), (0, .ref (gB g + a0)), (1, .int x1), (2, .int x2)]) hx hb dX2_firstUser_1 rfl hl (by decide) rfl (fun ls hl => ?_)
  refine lv_iconst (v := (0 : Int32)) hx hb dX2_firstUser_2 (by decide) ?_
  refine lv_istore (lv' := [(4, .int (0 : Int32)), (3, .int (-1 : Int32)), (0, .ref (gB g + a0)), (1, .int x1), (2, .int x2)]) hx hb dX2_firstUser_3 hl (by decide) rfl (fun ls hl => ?_)
  exact wX2_firstUser_L5 C hr FU hH hf (lv_sub hl [2, 3, 4, 1, 0] rfl)
set_option maxHeartbeats 4000000 in
set_option maxRecDepth 100000 in
theorem c_X9_cut {l : Launch} {g : GD} {h : PH} {x0 : Int64} {x2 : Int64} {r : Int64} {h' : PH} (hf : mX9_cut h x0 x2 = some (r, h')) : Met l yX9_cut (Cond.code yX9_cut cX9_cut 4 (some .long) :: TB) (rmD 0 0 0) (PcH g [.long x0, .long x2] h) (QcL g r h') 0 0 (aB g) := by
  refine Met.ofW (cc := cX9_cut) (maxL := 4) (ret := some .long) (by decide) rfl ?_
  intro p e s m args below meth c s₁ B hml hv
  obtain ⟨rfl, hH0, hkk0⟩ := hv
  have C : CT g RX9 cX9_cut 4 (Cond.code yX9_cut cX9_cut 4 (some .long) :: TB) p s m _ meth c := pg_ct (Tw := []) B hml hH0 hkk0
  have hr := B.returns
  have hH : HS g s s.heap [] h := ⟨hH0, va_S.rf⟩
  have hl := lv_entry ([.long x0, .long x2]) (n := 4) (Nat.le_of_ble_eq_true rfl)
  rw [lg_entry_eq]
  generalize (lg_sl ([.long x0, .long x2]) ++ List.replicate (4 - (lg_sl ([.long x0, .long x2])).length) Slot.unset).toArray = ls at hl ⊢
  have hl : lv_has ls 4 [(0, .long x0), (2, .long x2)] := hl
  show W p l e (rmD 0 0 0) _ _ _ _ _ _ _ _ _ _ _ _
  unfold mX9_cut at hf
  obtain ⟨⟨hx, hb, hml, hown, hts⟩, htb, hlk, hkk, hbs⟩ := id C
  refine lv_lload_n hx hb dX9_cut_0 rfl (lv_at hl 1 rfl) ?_
  refine lv_lconst (v := (0 : Int64)) hx hb dX9_cut_1 (by decide) ?_
  refine W.lcmp hx hb dX9_cut_2 ?_
  refine lv_if_le (tgt := 12) hx hb dX9_cut_3 (by decide) (fun cn => ?_) (fun cn => ?_)
  · have hf := (if_pos ((lg_cmp_le _ _).mp cn)).symm.trans hf
    refine lv_lconst (v := (0 : Int64)) hx hb dX9_cut_12 (by decide) ?_
    exact pg_lret C hr hH hf dX9_cut_13
  · have hf := (if_neg (fun z => cn ((lg_cmp_le _ _).mpr z))).symm.trans hf
    refine lv_lload_n hx hb dX9_cut_6 rfl (lv_at hl 0 rfl) ?_
    refine lv_lload_n hx hb dX9_cut_7 rfl (lv_at hl 1 rfl) ?_
    obtain ⟨hz8, hf⟩ := dz_sp hf
    refine lv_ldiv hx hb dX9_cut_8 hz8 ?_
    refine lv_goto (tgt := 13) hx hb dX9_cut_9 (by decide) ?_
    exact pg_lret C hr hH hf dX9_cut_13
set_option maxHeartbeats 4000000 in
set_option maxRecDepth 100000 in
theorem wX2_shareOut_b43 {r43 : PH → Nat → Int32 → Int32 → Int32 → Int32 → Int32 → Int32 → Option (PH)} {h' : PH} (C : CT g RX2 cX2_shareOut 9 (Cond.code yX2_shareOut cX2_shareOut 9 (none) :: TB) p s m args meth c) (hr : meth.sig.returnType = none) (k43 : ∀ {h : PH} {a0 : Nat} {x1 : Int32} {x2 : Int32} {x3 : Int32} {x4 : Int32} {x5 : Int32} {x6 : Int32} {H : Heap} {locs : List Loc} {ls : Array Slot}, HS g s H locs h → r43 h a0 x1 x2 x3 x4 x5 x6 = some h' → lv_has ls 9 [(0, .ref (gB g + a0)), (1, .int x1), (2, .int x2), (3, .int x3), (4, .int x4), (5, .int x5), (6, .int x6)] → W p l e (rmD 1 0 0) s m args below meth c H locs 0 0 (MQ below (QcV g h') args s 0 0 (aB g)) (F0 m 43 ls [])) {h : PH} {a0 : Nat} {x1 : Int32} {x2 : Int32} {x3 : Int32} {x4 : Int32} {x5 : Int32} {x6 : Int32} {H : Heap} {locs : List Loc} {ls : Array Slot} (hH : HS g s H locs h) (hf : mX2_shareOut_b43 r43 h a0 x1 x2 x3 x4 x5 x6 = some h') (hl : lv_has ls 9 [(0, .ref (gB g + a0)), (1, .int x1), (2, .int x2), (3, .int x3), (4, .int x4), (5, .int x5), (6, .int x6)]) : W p l e (rmD 1 0 0) s m args below meth c H locs 0 0 (MQ below (QcV g h') args s 0 0 (aB g)) (F0 m 43 ls []) := by
  obtain ⟨⟨hx, hb, hml, hown, hts⟩, htb, hlk, hkk, hbs⟩ := id C
  unfold mX2_shareOut_b43 at hf
  refine lv_iload hx hb dX2_shareOut_43 (lv_at hl 6 rfl) ?_
  refine lv_aload_n hx hb dX2_shareOut_45 rfl (lv_at hl 0 rfl) ?_
  refine pg_gR C hH fl_X2_38 hf dX2_shareOut_46 (fun v46 hf => ?_)
  refine pg_gR C hH fl_X2_45 hf dX2_shareOut_49 (fun v49 hf => ?_)
  refine lv_iconst (v := (3 : Int32)) hx hb dX2_shareOut_52 (by decide) ?_
  refine pg_aI C hH hf dX2_shareOut_53 (fun v53 hf => ?_)
  refine lv_icmp_ge (tgt := 150) hx hb dX2_shareOut_54 (by decide) (fun cn => ?_) (fun cn => ?_)
  · have hf := (if_pos cn).symm.trans hf
    exact pg_vret C hr hH hf dX2_shareOut_150
  · have hf := (if_neg cn).symm.trans hf
    refine lv_aload_n hx hb dX2_shareOut_57 rfl (lv_at hl 0 rfl) ?_
    refine lv_iload_n hx hb dX2_shareOut_58 rfl (lv_at hl 1 rfl) ?_
    refine lv_iload hx hb dX2_shareOut_59 (lv_at hl 5 rfl) ?_
    refine pg_Vi (As := [.int x1, .int x5]) C hH mi_X2_firstUser vl_X2_88 (q := (RX2, TX2, 8)) (ci := 2) rfl rfl hf (fun _ e1 => (oO_sp e1).1) (fun _ _ e1 => c_X2_firstUser e1) rfl rfl hl.1 (Nat.le_of_ble_eq_true rfl) ⟨Nat.le_of_ble_eq_true rfl, Nat.le_of_ble_eq_true rfl⟩ ⟨Nat.zero_le _, Nat.zero_le _⟩ dX2_shareOut_61 (fun H locs v61 h61 hH hf => ?_)
    refine lv_istore (lv' := [(7, .int v61), (0, .ref (gB g + a0)), (1, .int x1), (2, .int x2), (3, .int x3), (4, .int x4), (5, .int x5), (6, .int x6)]) hx hb dX2_shareOut_64 hl (by decide) rfl (fun ls hl => ?_)
    refine lv_iload hx hb dX2_shareOut_66 (lv_at hl 0 rfl) ?_
    refine lv_iconst (v := (-1 : Int32)) hx hb dX2_shareOut_68 (by decide) ?_
    refine lv_icmp_ne (tgt := 73) hx hb dX2_shareOut_69 (by decide) (fun cn => ?_) (fun cn => ?_)
    · have hf := (if_neg cn).symm.trans hf
      refine lv_iload_n hx hb dX2_shareOut_73 rfl (lv_at hl 4 rfl) ?_
      refine lv_if_ne (tgt := 88) hx hb dX2_shareOut_74 (by decide) (fun cn => ?_) (fun cn => ?_)
      · have hf := (if_neg cn).symm.trans hf
        refine lv_iload hx hb dX2_shareOut_88 (lv_at hl 5 rfl) ?_
        refine lv_aload_n hx hb dX2_shareOut_90 rfl (lv_at hl 1 rfl) ?_
        refine pg_gR C hH fl_X2_38 hf dX2_shareOut_91 (fun v91 hf => ?_)
        refine pg_gR C hH fl_X2_54 hf dX2_shareOut_94 (fun v94 hf => ?_)
        refine lv_iload hx hb dX2_shareOut_97 (lv_at hl 0 rfl) ?_
        refine pg_aR C hH (Or.inr rfl) hf dX2_shareOut_99 (fun v99 hf => ?_)
        refine lv_iconst (v := (3 : Int32)) hx hb dX2_shareOut_100 (by decide) ?_
        refine pg_aI C hH hf dX2_shareOut_101 (fun v101 hf => ?_)
        refine pg_mmin C jm_X2_92 hl.1 (Nat.le_of_ble_eq_true rfl) (Nat.le_of_ble_eq_true rfl) ⟨Nat.zero_le _, Nat.zero_le _⟩ dX2_shareOut_102 ?_
        refine lv_istore (lv' := [(8, .int (mmin x4 v101)), (7, .int v61), (0, .ref (gB g + a0)), (1, .int x1), (2, .int x2), (3, .int x3), (4, .int x4), (5, .int x5), (6, .int x6)]) hx hb dX2_shareOut_105 hl (by decide) rfl (fun ls hl => ?_)
        refine lv_aload_n hx hb dX2_shareOut_107 rfl (lv_at hl 2 rfl) ?_
        refine pg_gR C hH fl_X2_28 hf dX2_shareOut_108 (fun v108 hf => ?_)
        refine lv_iload_n hx hb dX2_shareOut_111 rfl (lv_at hl 3 rfl) ?_
        refine pg_aR C hH (Or.inr rfl) hf dX2_shareOut_112 (fun v112 hf => ?_)
        refine lv_iload hx hb dX2_shareOut_113 (lv_at hl 1 rfl) ?_
        refine lv_iload_n hx hb dX2_shareOut_115 rfl (lv_at hl 4 rfl) ?_
        refine lv_i2l (v := (Int32.toInt64 x2)) hx hb dX2_shareOut_116 rfl ?_
        refine lv_iload hx hb dX2_shareOut_117 (lv_at hl 0 rfl) ?_
        refine lv_i2l (v := (Int32.toInt64 (mmin x4 v101))) hx hb dX2_shareOut_119 rfl ?_
        refine lv_lmul hx hb dX2_shareOut_120 ?_
        refine lv_iload_n hx hb dX2_shareOut_121 rfl (lv_at hl 5 rfl) ?_
        refine lv_i2l (v := (Int32.toInt64 x3)) hx hb dX2_shareOut_122 rfl ?_
        refine pg_Nl (As := [.long ((Int32.toInt64 x2) * (Int32.toInt64 (mmin x4 v101))), .long (Int32.toInt64 x3)]) C hH mi_X9_cut (List.mem_of_getElem? (i := 3) rfl) st_X9_cut hf (fun _ _ e1 => c_X9_cut e1) rfl rfl hl.1 (Nat.le_of_ble_eq_true rfl) ⟨Nat.le_of_ble_eq_true rfl, Nat.le_of_ble_eq_true rfl⟩ ⟨Nat.zero_le _, Nat.zero_le _⟩ dX2_shareOut_123 (fun H locs v123 h123 hH hf => ?_)
        refine lv_l2i (v := (Int64.toInt32 v123)) hx hb dX2_shareOut_126 rfl ?_
        refine pg_sI C hH hf dX2_shareOut_127 (fun H locs h127 hH hf => ?_)
        refine lv_iload hx hb dX2_shareOut_128 (lv_at hl 6 rfl) ?_
        refine lv_iload hx hb dX2_shareOut_130 (lv_at hl 0 rfl) ?_
        refine lv_isub hx hb dX2_shareOut_132 ?_
        refine lv_istore (lv' := [(4, .int (x4 - (mmin x4 v101))), (8, .int (mmin x4 v101)), (7, .int v61), (0, .ref (gB g + a0)), (1, .int x1), (2, .int x2), (3, .int x3), (5, .int x5), (6, .int x6)]) hx hb dX2_shareOut_133 hl (by decide) rfl (fun ls hl => ?_)
        refine lv_iload hx hb dX2_shareOut_135 (lv_at hl 7 rfl) ?_
        refine lv_iconst (v := (1 : Int32)) hx hb dX2_shareOut_137 (by decide) ?_
        refine lv_iload hx hb dX2_shareOut_138 (lv_at hl 2 rfl) ?_
        refine lv_ishl hx hb dX2_shareOut_140 ?_
        refine lv_ior hx hb dX2_shareOut_141 ?_
        refine lv_istore (lv' := [(5, .int (x5 ||| ((1 : Int32) <<< (v61 &&& 31)))), (4, .int (x4 - (mmin x4 v101))), (8, .int (mmin x4 v101)), (7, .int v61), (0, .ref (gB g + a0)), (1, .int x1), (2, .int x2), (3, .int x3), (6, .int x6)]) hx hb dX2_shareOut_142 hl (by decide) rfl (fun ls hl => ?_)
        refine lv_iinc (v := (x6 + 1)) (lv' := [(6, .int (x6 + 1)), (5, .int (x5 ||| ((1 : Int32) <<< (v61 &&& 31)))), (4, .int (x4 - (mmin x4 v101))), (8, .int (mmin x4 v101)), (7, .int v61), (0, .ref (gB g + a0)), (1, .int x1), (2, .int x2), (3, .int x3)]) hx hb dX2_shareOut_144 hl (k := 8) rfl rfl (by decide) rfl (fun ls hl => ?_)
        refine lv_goto (tgt := 43) hx hb dX2_shareOut_147 (by decide) ?_
        exact k43 hH hf (lv_sub hl [5, 6, 7, 8, 2, 1, 0] rfl)
      · have hf := (if_pos cn).symm.trans hf
        refine lv_aload_n hx hb dX2_shareOut_77 rfl (lv_at hl 1 rfl) ?_
        refine pg_gR C hH fl_X2_28 hf dX2_shareOut_78 (fun v78 hf => ?_)
        refine lv_iload_n hx hb dX2_shareOut_81 rfl (lv_at hl 2 rfl) ?_
        refine pg_aR C hH (Or.inr rfl) hf dX2_shareOut_82 (fun v82 hf => ?_)
        refine lv_iload hx hb dX2_shareOut_83 (lv_at hl 0 rfl) ?_
        refine lv_iload_n hx hb dX2_shareOut_85 rfl (lv_at hl 3 rfl) ?_
        refine pg_sI C hH hf dX2_shareOut_86 (fun H locs h86 hH hf => ?_)
        exact pg_vret C hr hH hf dX2_shareOut_87
    · have hf := (if_pos cn).symm.trans hf
      exact pg_vret C hr hH hf dX2_shareOut_72
set_option maxHeartbeats 4000000 in
set_option maxRecDepth 100000 in
theorem wX2_shareOut_L43 {h' : PH} (C : CT g RX2 cX2_shareOut 9 (Cond.code yX2_shareOut cX2_shareOut 9 (none) :: TB) p s m args meth c) (hr : meth.sig.returnType = none) : ∀ (n : Nat) {h : PH} {a0 : Nat} {x1 : Int32} {x2 : Int32} {x3 : Int32} {x4 : Int32} {x5 : Int32} {x6 : Int32} {H : Heap} {locs : List Loc} {ls : Array Slot}, HS g s H locs h → mX2_shareOut_L43 n h a0 x1 x2 x3 x4 x5 x6 = some h' → lv_has ls 9 [(0, .ref (gB g + a0)), (1, .int x1), (2, .int x2), (3, .int x3), (4, .int x4), (5, .int x5), (6, .int x6)] → W p l e (rmD 1 0 0) s m args below meth c H locs 0 0 (MQ below (QcV g h') args s 0 0 (aB g)) (F0 m 43 ls []) := by
  intro n
  induction n with
  | zero =>
    intro h a0 x1 x2 x3 x4 x5 x6 H locs ls hH hf hl
    exact absurd hf (by intro z; cases z)
  | succ n ih =>
    intro h a0 x1 x2 x3 x4 x5 x6 H locs ls hH hf hl
    have hf : mX2_shareOut_b43 (mX2_shareOut_L43 n) h a0 x1 x2 x3 x4 x5 x6 = some h' := hf
    exact wX2_shareOut_b43 C hr (fun a b c => ih a b c) hH hf hl
set_option maxHeartbeats 4000000 in
set_option maxRecDepth 100000 in
theorem c_X2_shareOut {l : Launch} {g : GD} {h : PH} {a0 : Nat} {x1 : Int32} {h' : PH} (hf : mX2_shareOut h a0 x1 = some h') : Met l yX2_shareOut (Cond.code yX2_shareOut cX2_shareOut 9 (none) :: TB) (rmD 1 0 0) (PcH g [.ref (gB g + a0), .int x1] h) (QcV g h') 0 0 (aB g) := by
  refine Met.ofW (cc := cX2_shareOut) (maxL := 9) (ret := none) (by decide) rfl ?_
  intro p e s m args below meth c s₁ B hml hv
  obtain ⟨rfl, hH0, hkk0⟩ := hv
  have C : CT g RX2 cX2_shareOut 9 (Cond.code yX2_shareOut cX2_shareOut 9 (none) :: TB) p s m _ meth c := pg_ct (Tw := []) B hml hH0 hkk0
  have hr := B.returns
  have hH : HS g s s.heap [] h := ⟨hH0, va_S.rf⟩
  have hl := lv_entry ([.ref (gB g + a0), .int x1]) (n := 9) (Nat.le_of_ble_eq_true rfl)
  rw [lg_entry_eq]
  generalize (lg_sl ([.ref (gB g + a0), .int x1]) ++ List.replicate (9 - (lg_sl ([.ref (gB g + a0), .int x1])).length) Slot.unset).toArray = ls at hl ⊢
  have hl : lv_has ls 9 [(0, .ref (gB g + a0)), (1, .int x1)] := hl
  show W p l e (rmD 1 0 0) _ _ _ _ _ _ _ _ _ _ _ _
  unfold mX2_shareOut at hf
  obtain ⟨hO, hf⟩ := oO_sp hf
  obtain ⟨⟨hx, hb, hml, hown, hts⟩, htb, hlk, hkk, hbs⟩ := id C
  refine lv_aload_n hx hb dX2_shareOut_0 rfl (lv_at hl 0 rfl) ?_
  refine pg_gR C hH fl_X2_38 hf dX2_shareOut_1 (fun v1 hf => ?_)
  refine pg_gR C hH fl_X2_79 hf dX2_shareOut_4 (fun v4 hf => ?_)
  refine lv_iload_n hx hb dX2_shareOut_7 rfl (lv_at hl 1 rfl) ?_
  refine pg_aR C hH (Or.inr rfl) hf dX2_shareOut_8 (fun v8 hf => ?_)
  refine lv_iconst (v := (0 : Int32)) hx hb dX2_shareOut_9 (by decide) ?_
  refine pg_aI C hH hf dX2_shareOut_10 (fun v10 hf => ?_)
  refine lv_istore_n (lv' := [(2, .int v10), (0, .ref (gB g + a0)), (1, .int x1)]) hx hb dX2_shareOut_11 rfl hl (by decide) rfl (fun ls hl => ?_)
  refine lv_aload_n hx hb dX2_shareOut_12 rfl (lv_at hl 1 rfl) ?_
  refine pg_gR C hH fl_X2_38 hf dX2_shareOut_13 (fun v13 hf => ?_)
  refine pg_gR C hH fl_X2_79 hf dX2_shareOut_16 (fun v16 hf => ?_)
  refine lv_iload_n hx hb dX2_shareOut_19 rfl (lv_at hl 2 rfl) ?_
  refine pg_aR C hH (Or.inr rfl) hf dX2_shareOut_20 (fun v20 hf => ?_)
  refine lv_iconst (v := (1 : Int32)) hx hb dX2_shareOut_21 (by decide) ?_
  refine pg_aI C hH hf dX2_shareOut_22 (fun v22 hf => ?_)
  refine lv_istore_n (lv' := [(3, .int v22), (2, .int v10), (0, .ref (gB g + a0)), (1, .int x1)]) hx hb dX2_shareOut_23 rfl hl (by decide) rfl (fun ls hl => ?_)
  refine lv_iload_n hx hb dX2_shareOut_24 rfl (lv_at hl 0 rfl) ?_
  refine lv_istore (lv' := [(4, .int v22), (3, .int v22), (2, .int v10), (0, .ref (gB g + a0)), (1, .int x1)]) hx hb dX2_shareOut_25 hl (by decide) rfl (fun ls hl => ?_)
  refine lv_iconst (v := (0 : Int32)) hx hb dX2_shareOut_27 (by decide) ?_
  refine lv_istore (lv' := [(5, .int (0 : Int32)), (4, .int v22), (3, .int v22), (2, .int v10), (0, .ref (gB g + a0)), (1, .int x1)]) hx hb dX2_shareOut_28 hl (by decide) rfl (fun ls hl => ?_)
  refine lv_aload_n hx hb dX2_shareOut_30 rfl (lv_at hl 4 rfl) ?_
  refine pg_gR C hH fl_X2_28 hf dX2_shareOut_31 (fun v31 hf => ?_)
  refine lv_iload_n hx hb dX2_shareOut_34 rfl (lv_at hl 5 rfl) ?_
  refine pg_aR C hH (Or.inr rfl) hf dX2_shareOut_35 (fun v35 hf => ?_)
  refine lv_iconst (v := (0 : Int32)) hx hb dX2_shareOut_36 (by decide) ?_
  refine pg_Sv (As := [.ref (gB g + v35), .int (0 : Int32)]) C hH mi_J7_fill_53178 sl_X2_82 hf (fun _ e1 => c_J7_fill_53178 e1) rfl rfl hl.1 (Nat.le_of_ble_eq_true rfl) ⟨Nat.le_of_ble_eq_true rfl, Nat.le_of_ble_eq_true rfl⟩ ⟨Nat.zero_le _, Nat.zero_le _⟩ dX2_shareOut_37 (fun H locs h37 hH hf => ?_)
  refine lv_iconst (v := (0 : Int32)) hx hb dX2_shareOut_40 (by decide) ?_
  refine lv_istore (lv' := [(6, .int (0 : Int32)), (5, .int (0 : Int32)), (4, .int v22), (3, .int v22), (2, .int v10), (0, .ref (gB g + a0)), (1, .int x1)]) hx hb dX2_shareOut_41 hl (by decide) rfl (fun ls hl => ?_)
  exact wX2_shareOut_L43 C hr FU hH hf (lv_sub hl [5, 6, 4, 3, 2, 1, 0] rfl)
set_option maxHeartbeats 4000000 in
set_option maxRecDepth 100000 in
theorem wX8_levelOf_b4 {r4 : PH → Nat → Int32 → Int32 → Int32 → Option (Int32 × PH)} {r : Int32} {h' : PH} (C : CT g RX8 cX8_levelOf 4 (Cond.code yX8_levelOf cX8_levelOf 4 (some .int) :: TB) p s m args meth c) (hr : meth.sig.returnType = some .int) (k4 : ∀ {h : PH} {a0 : Nat} {x1 : Int32} {x2 : Int32} {x3 : Int32} {H : Heap} {locs : List Loc} {ls : Array Slot}, HS g s H locs h → r4 h a0 x1 x2 x3 = some (r, h') → lv_has ls 4 [(0, .ref (gB g + a0)), (1, .int x1), (2, .int x2), (3, .int x3)] → W p l e (rmD 0 0 0) s m args below meth c H locs 0 0 (MQ below (QcI g r h') args s 0 0 (aB g)) (F0 m 4 ls [])) {h : PH} {a0 : Nat} {x1 : Int32} {x2 : Int32} {x3 : Int32} {H : Heap} {locs : List Loc} {ls : Array Slot} (hH : HS g s H locs h) (hf : mX8_levelOf_b4 r4 h a0 x1 x2 x3 = some (r, h')) (hl : lv_has ls 4 [(0, .ref (gB g + a0)), (1, .int x1), (2, .int x2), (3, .int x3)]) : W p l e (rmD 0 0 0) s m args below meth c H locs 0 0 (MQ below (QcI g r h') args s 0 0 (aB g)) (F0 m 4 ls []) := by
  obtain ⟨⟨hx, hb, hml, hown, hts⟩, htb, hlk, hkk, hbs⟩ := id C
  unfold mX8_levelOf_b4 at hf
  refine lv_iload_n hx hb dX8_levelOf_4 rfl (lv_at hl 3 rfl) ?_
  refine lv_aload_n hx hb dX8_levelOf_5 rfl (lv_at hl 0 rfl) ?_
  refine pg_gR C hH fl_X8_9 hf dX8_levelOf_6 (fun v6 hf => ?_)
  refine lv_iconst (v := (5 : Int32)) hx hb dX8_levelOf_9 (by decide) ?_
  refine pg_aI C hH hf dX8_levelOf_10 (fun v10 hf => ?_)
  refine lv_icmp_ge (tgt := 43) hx hb dX8_levelOf_11 (by decide) (fun cn => ?_) (fun cn => ?_)
  · have hf := (if_pos cn).symm.trans hf
    refine lv_iload_n hx hb dX8_levelOf_43 rfl (lv_at hl 2 rfl) ?_
    exact pg_iret C hr hH hf dX8_levelOf_44
  · have hf := (if_neg cn).symm.trans hf
    refine lv_aload_n hx hb dX8_levelOf_14 rfl (lv_at hl 0 rfl) ?_
    refine pg_gR C hH fl_X8_26 hf dX8_levelOf_15 (fun v15 hf => ?_)
    refine lv_iload_n hx hb dX8_levelOf_18 rfl (lv_at hl 1 rfl) ?_
    refine pg_aR C hH (Or.inr rfl) hf dX8_levelOf_19 (fun v19 hf => ?_)
    refine lv_iconst (v := (3 : Int32)) hx hb dX8_levelOf_20 (by decide) ?_
    refine pg_aI C hH hf dX8_levelOf_21 (fun v21 hf => ?_)
    refine lv_aload_n hx hb dX8_levelOf_22 rfl (lv_at hl 0 rfl) ?_
    refine pg_gR C hH fl_X8_36 hf dX8_levelOf_23 (fun v23 hf => ?_)
    refine lv_iload_n hx hb dX8_levelOf_26 rfl (lv_at hl 3 rfl) ?_
    refine pg_aR C hH (Or.inr rfl) hf dX8_levelOf_27 (fun v27 hf => ?_)
    refine lv_iconst (v := (0 : Int32)) hx hb dX8_levelOf_28 (by decide) ?_
    refine pg_aI C hH hf dX8_levelOf_29 (fun v29 hf => ?_)
    refine lv_icmp_lt (tgt := 37) hx hb dX8_levelOf_30 (by decide) (fun cn => ?_) (fun cn => ?_)
    · have hf := (if_pos cn).symm.trans hf
      refine lv_iinc (v := (x3 + 1)) (lv' := [(3, .int (x3 + 1)), (0, .ref (gB g + a0)), (1, .int x1), (2, .int x2)]) hx hb dX8_levelOf_37 hl (k := 3) rfl rfl (by decide) rfl (fun ls hl => ?_)
      refine lv_goto (tgt := 4) hx hb dX8_levelOf_40 (by decide) ?_
      exact k4 hH hf (lv_sub hl [1, 2, 3, 0] rfl)
    · have hf := (if_neg cn).symm.trans hf
      refine lv_iload_n hx hb dX8_levelOf_33 rfl (lv_at hl 3 rfl) ?_
      refine lv_iconst (v := (1 : Int32)) hx hb dX8_levelOf_34 (by decide) ?_
      refine lv_iadd hx hb dX8_levelOf_35 ?_
      refine lv_istore_n (lv' := [(2, .int (x3 + (1 : Int32))), (0, .ref (gB g + a0)), (1, .int x1), (3, .int x3)]) hx hb dX8_levelOf_36 rfl hl (by decide) rfl (fun ls hl => ?_)
      refine lv_iinc (v := (x3 + 1)) (lv' := [(3, .int (x3 + 1)), (2, .int (x3 + (1 : Int32))), (0, .ref (gB g + a0)), (1, .int x1)]) hx hb dX8_levelOf_37 hl (k := 3) rfl rfl (by decide) rfl (fun ls hl => ?_)
      refine lv_goto (tgt := 4) hx hb dX8_levelOf_40 (by decide) ?_
      exact k4 hH hf (lv_sub hl [2, 3, 1, 0] rfl)
set_option maxHeartbeats 4000000 in
set_option maxRecDepth 100000 in
theorem wX8_levelOf_L4 {r : Int32} {h' : PH} (C : CT g RX8 cX8_levelOf 4 (Cond.code yX8_levelOf cX8_levelOf 4 (some .int) :: TB) p s m args meth c) (hr : meth.sig.returnType = some .int) : ∀ (n : Nat) {h : PH} {a0 : Nat} {x1 : Int32} {x2 : Int32} {x3 : Int32} {H : Heap} {locs : List Loc} {ls : Array Slot}, HS g s H locs h → mX8_levelOf_L4 n h a0 x1 x2 x3 = some (r, h') → lv_has ls 4 [(0, .ref (gB g + a0)), (1, .int x1), (2, .int x2), (3, .int x3)] → W p l e (rmD 0 0 0) s m args below meth c H locs 0 0 (MQ below (QcI g r h') args s 0 0 (aB g)) (F0 m 4 ls []) := by
  intro n
  induction n with
  | zero =>
    intro h a0 x1 x2 x3 H locs ls hH hf hl
    exact absurd hf (by intro z; cases z)
  | succ n ih =>
    intro h a0 x1 x2 x3 H locs ls hH hf hl
    have hf : mX8_levelOf_b4 (mX8_levelOf_L4 n) h a0 x1 x2 x3 = some (r, h') := hf
    exact wX8_levelOf_b4 C hr (fun a b c => ih a b c) hH hf hl
set_option maxHeartbeats 4000000 in
set_option maxRecDepth 100000 in
theorem c_X8_levelOf {l : Launch} {g : GD} {h : PH} {a0 : Nat} {x1 : Int32} {r : Int32} {h' : PH} (hf : mX8_levelOf h a0 x1 = some (r, h')) : Met l yX8_levelOf (Cond.code yX8_levelOf cX8_levelOf 4 (some .int) :: TB) (rmD 0 0 0) (PcH g [.ref (gB g + a0), .int x1] h) (QcI g r h') 0 0 (aB g) := by
  refine Met.ofW (cc := cX8_levelOf) (maxL := 4) (ret := some .int) (by decide) rfl ?_
  intro p e s m args below meth c s₁ B hml hv
  obtain ⟨rfl, hH0, hkk0⟩ := hv
  have C : CT g RX8 cX8_levelOf 4 (Cond.code yX8_levelOf cX8_levelOf 4 (some .int) :: TB) p s m _ meth c := pg_ct (Tw := []) B hml hH0 hkk0
  have hr := B.returns
  have hH : HS g s s.heap [] h := ⟨hH0, va_S.rf⟩
  have hl := lv_entry ([.ref (gB g + a0), .int x1]) (n := 4) (Nat.le_of_ble_eq_true rfl)
  rw [lg_entry_eq]
  generalize (lg_sl ([.ref (gB g + a0), .int x1]) ++ List.replicate (4 - (lg_sl ([.ref (gB g + a0), .int x1])).length) Slot.unset).toArray = ls at hl ⊢
  have hl : lv_has ls 4 [(0, .ref (gB g + a0)), (1, .int x1)] := hl
  show W p l e (rmD 0 0 0) _ _ _ _ _ _ _ _ _ _ _ _
  unfold mX8_levelOf at hf
  obtain ⟨hO, hf⟩ := oO_sp hf
  obtain ⟨⟨hx, hb, hml, hown, hts⟩, htb, hlk, hkk, hbs⟩ := id C
  refine lv_iconst (v := (0 : Int32)) hx hb dX8_levelOf_0 (by decide) ?_
  refine lv_istore_n (lv' := [(2, .int (0 : Int32)), (0, .ref (gB g + a0)), (1, .int x1)]) hx hb dX8_levelOf_1 rfl hl (by decide) rfl (fun ls hl => ?_)
  refine lv_iconst (v := (0 : Int32)) hx hb dX8_levelOf_2 (by decide) ?_
  refine lv_istore_n (lv' := [(3, .int (0 : Int32)), (2, .int (0 : Int32)), (0, .ref (gB g + a0)), (1, .int x1)]) hx hb dX8_levelOf_3 rfl hl (by decide) rfl (fun ls hl => ?_)
  exact wX8_levelOf_L4 C hr FU hH hf (lv_sub hl [2, 3, 1, 0] rfl)
set_option maxHeartbeats 4000000 in
set_option maxRecDepth 100000 in
theorem c_X2_priced {l : Launch} {g : GD} {h : PH} {a0 : Nat} {x1 : Int32} {x2 : Int32} {r : Int64} {h' : PH} (hf : mX2_priced h a0 x1 x2 = some (r, h')) : Met l yX2_priced (Cond.code yX2_priced cX2_priced 5 (some .long) :: TB) (rmD 0 0 0) (PcH g [.ref (gB g + a0), .int x1, .int x2] h) (QcL g r h') 0 0 (aB g) := by
  refine Met.ofW (cc := cX2_priced) (maxL := 5) (ret := some .long) (by decide) rfl ?_
  intro p e s m args below meth c s₁ B hml hv
  obtain ⟨rfl, hH0, hkk0⟩ := hv
  have C : CT g RX2 cX2_priced 5 (Cond.code yX2_priced cX2_priced 5 (some .long) :: TB) p s m _ meth c := pg_ct (Tw := []) B hml hH0 hkk0
  have hr := B.returns
  have hH : HS g s s.heap [] h := ⟨hH0, va_S.rf⟩
  have hl := lv_entry ([.ref (gB g + a0), .int x1, .int x2]) (n := 5) (Nat.le_of_ble_eq_true rfl)
  rw [lg_entry_eq]
  generalize (lg_sl ([.ref (gB g + a0), .int x1, .int x2]) ++ List.replicate (5 - (lg_sl ([.ref (gB g + a0), .int x1, .int x2])).length) Slot.unset).toArray = ls at hl ⊢
  have hl : lv_has ls 5 [(0, .ref (gB g + a0)), (1, .int x1), (2, .int x2)] := hl
  show W p l e (rmD 0 0 0) _ _ _ _ _ _ _ _ _ _ _ _
  unfold mX2_priced at hf
  obtain ⟨hO, hf⟩ := oO_sp hf
  obtain ⟨⟨hx, hb, hml, hown, hts⟩, htb, hlk, hkk, hbs⟩ := id C
  refine lv_iload_n hx hb dX2_priced_0 rfl (lv_at hl 2 rfl) ?_
  refine lv_i2l (v := (Int32.toInt64 x2)) hx hb dX2_priced_1 rfl ?_
  refine lv_aload_n hx hb dX2_priced_2 rfl (lv_at hl 0 rfl) ?_
  refine pg_gR C hH fl_X2_38 hf dX2_priced_3 (fun v3 hf => ?_)
  refine pg_gR C hH fl_X2_54 hf dX2_priced_6 (fun v6 hf => ?_)
  refine lv_iload_n hx hb dX2_priced_9 rfl (lv_at hl 1 rfl) ?_
  refine pg_aR C hH (Or.inr rfl) hf dX2_priced_10 (fun v10 hf => ?_)
  refine lv_iconst (v := (3 : Int32)) hx hb dX2_priced_11 (by decide) ?_
  refine pg_aI C hH hf dX2_priced_12 (fun v12 hf => ?_)
  refine lv_i2l (v := (Int32.toInt64 v12)) hx hb dX2_priced_13 rfl ?_
  refine lv_lmul hx hb dX2_priced_14 ?_
  refine lv_lstore_n (lv' := [(3, .long ((Int32.toInt64 x2) * (Int32.toInt64 v12))), (0, .ref (gB g + a0)), (1, .int x1), (2, .int x2)]) hx hb dX2_priced_15 rfl hl (by decide) rfl (fun ls hl => ?_)
  refine lv_lload_n hx hb dX2_priced_16 rfl (lv_at hl 0 rfl) ?_
  refine lv_lload_n hx hb dX2_priced_17 rfl (lv_at hl 0 rfl) ?_
  refine lv_aload_n hx hb dX2_priced_18 rfl (lv_at hl 1 rfl) ?_
  refine pg_gR C hH fl_X2_38 hf dX2_priced_19 (fun v19 hf => ?_)
  refine pg_gR C hH fl_X2_54 hf dX2_priced_22 (fun v22 hf => ?_)
  refine lv_iload_n hx hb dX2_priced_25 rfl (lv_at hl 2 rfl) ?_
  refine pg_aR C hH (Or.inr rfl) hf dX2_priced_26 (fun v26 hf => ?_)
  refine lv_bipush (v := (7 : Int32)) hx hb dX2_priced_27 (by decide) ?_
  refine pg_aI C hH hf dX2_priced_29 (fun v29 hf => ?_)
  refine lv_i2l (v := (Int32.toInt64 v29)) hx hb dX2_priced_30 rfl ?_
  refine lv_lmul hx hb dX2_priced_31 ?_
  refine lv_ldc2 (v := (100 : Int64)) hx hb hown (hts _ (htb _ kl_X2_101)) dX2_priced_32 ?_
  refine lv_ldiv hx hb dX2_priced_35 (by decide) ?_
  refine lv_ladd hx hb dX2_priced_36 ?_
  exact pg_lret C hr hH hf dX2_priced_37
set_option maxHeartbeats 4000000 in
set_option maxRecDepth 100000 in
theorem wX2_broughtAlong_b30 {r30 : PH → Nat → Int32 → Int64 → Int32 → Option (Int64 × PH)} {r : Int64} {h' : PH} (C : CT g RX2 cX2_broughtAlong 5 (Cond.code yX2_broughtAlong cX2_broughtAlong 5 (some .long) :: TB) p s m args meth c) (hr : meth.sig.returnType = some .long) (k30 : ∀ {h : PH} {a0 : Nat} {x1 : Int32} {x2 : Int64} {x4 : Int32} {H : Heap} {locs : List Loc} {ls : Array Slot}, HS g s H locs h → r30 h a0 x1 x2 x4 = some (r, h') → lv_has ls 5 [(0, .ref (gB g + a0)), (1, .int x1), (2, .long x2), (4, .int x4)] → W p l e (rmD 0 0 0) s m args below meth c H locs 0 0 (MQ below (QcL g r h') args s 0 0 (aB g)) (F0 m 30 ls [])) {h : PH} {a0 : Nat} {x1 : Int32} {x2 : Int64} {x4 : Int32} {H : Heap} {locs : List Loc} {ls : Array Slot} (hH : HS g s H locs h) (hf : mX2_broughtAlong_b30 r30 h a0 x1 x2 x4 = some (r, h')) (hl : lv_has ls 5 [(0, .ref (gB g + a0)), (1, .int x1), (2, .long x2), (4, .int x4)]) : W p l e (rmD 0 0 0) s m args below meth c H locs 0 0 (MQ below (QcL g r h') args s 0 0 (aB g)) (F0 m 30 ls []) := by
  obtain ⟨⟨hx, hb, hml, hown, hts⟩, htb, hlk, hkk, hbs⟩ := id C
  unfold mX2_broughtAlong_b30 at hf
  refine lv_iload hx hb dX2_broughtAlong_30 (lv_at hl 3 rfl) ?_
  refine lv_aload_n hx hb dX2_broughtAlong_32 rfl (lv_at hl 0 rfl) ?_
  refine pg_gR C hH fl_X2_38 hf dX2_broughtAlong_33 (fun v33 hf => ?_)
  refine pg_gR C hH fl_X2_45 hf dX2_broughtAlong_36 (fun v36 hf => ?_)
  refine lv_iconst (v := (2 : Int32)) hx hb dX2_broughtAlong_39 (by decide) ?_
  refine pg_aI C hH hf dX2_broughtAlong_40 (fun v40 hf => ?_)
  refine lv_icmp_ge (tgt := 63) hx hb dX2_broughtAlong_41 (by decide) (fun cn => ?_) (fun cn => ?_)
  · have hf := (if_pos cn).symm.trans hf
    refine lv_lload_n hx hb dX2_broughtAlong_63 rfl (lv_at hl 2 rfl) ?_
    exact pg_lret C hr hH hf dX2_broughtAlong_64
  · have hf := (if_neg cn).symm.trans hf
    refine lv_lload_n hx hb dX2_broughtAlong_44 rfl (lv_at hl 2 rfl) ?_
    refine lv_aload_n hx hb dX2_broughtAlong_45 rfl (lv_at hl 0 rfl) ?_
    refine pg_gR C hH fl_X2_28 hf dX2_broughtAlong_46 (fun v46 hf => ?_)
    refine lv_iload hx hb dX2_broughtAlong_49 (lv_at hl 3 rfl) ?_
    refine pg_aR C hH (Or.inr rfl) hf dX2_broughtAlong_51 (fun v51 hf => ?_)
    refine lv_iload_n hx hb dX2_broughtAlong_52 rfl (lv_at hl 1 rfl) ?_
    refine pg_aI C hH hf dX2_broughtAlong_53 (fun v53 hf => ?_)
    refine lv_i2l (v := (Int32.toInt64 v53)) hx hb dX2_broughtAlong_54 rfl ?_
    refine lv_ladd hx hb dX2_broughtAlong_55 ?_
    refine lv_lstore_n (lv' := [(2, .long (x2 + (Int32.toInt64 v53))), (0, .ref (gB g + a0)), (1, .int x1), (4, .int x4)]) hx hb dX2_broughtAlong_56 rfl hl (by decide) rfl (fun ls hl => ?_)
    refine lv_iinc (v := (x4 + 1)) (lv' := [(4, .int (x4 + 1)), (2, .long (x2 + (Int32.toInt64 v53))), (0, .ref (gB g + a0)), (1, .int x1)]) hx hb dX2_broughtAlong_57 hl (k := 3) rfl rfl (by decide) rfl (fun ls hl => ?_)
    refine lv_goto (tgt := 30) hx hb dX2_broughtAlong_60 (by decide) ?_
    exact k30 hH hf (lv_sub hl [2, 3, 1, 0] rfl)
set_option maxHeartbeats 4000000 in
set_option maxRecDepth 100000 in
theorem wX2_broughtAlong_L30 {r : Int64} {h' : PH} (C : CT g RX2 cX2_broughtAlong 5 (Cond.code yX2_broughtAlong cX2_broughtAlong 5 (some .long) :: TB) p s m args meth c) (hr : meth.sig.returnType = some .long) : ∀ (n : Nat) {h : PH} {a0 : Nat} {x1 : Int32} {x2 : Int64} {x4 : Int32} {H : Heap} {locs : List Loc} {ls : Array Slot}, HS g s H locs h → mX2_broughtAlong_L30 n h a0 x1 x2 x4 = some (r, h') → lv_has ls 5 [(0, .ref (gB g + a0)), (1, .int x1), (2, .long x2), (4, .int x4)] → W p l e (rmD 0 0 0) s m args below meth c H locs 0 0 (MQ below (QcL g r h') args s 0 0 (aB g)) (F0 m 30 ls []) := by
  intro n
  induction n with
  | zero =>
    intro h a0 x1 x2 x4 H locs ls hH hf hl
    exact absurd hf (by intro z; cases z)
  | succ n ih =>
    intro h a0 x1 x2 x4 H locs ls hH hf hl
    have hf : mX2_broughtAlong_b30 (mX2_broughtAlong_L30 n) h a0 x1 x2 x4 = some (r, h') := hf
    exact wX2_broughtAlong_b30 C hr (fun a b c => ih a b c) hH hf hl
set_option maxHeartbeats 4000000 in
set_option maxRecDepth 100000 in
theorem c_X2_broughtAlong {l : Launch} {g : GD} {h : PH} {a0 : Nat} {x1 : Int32} {r : Int64} {h' : PH} (hf : mX2_broughtAlong h a0 x1 = some (r, h')) : Met l yX2_broughtAlong (Cond.code yX2_broughtAlong cX2_broughtAlong 5 (some .long) :: TB) (rmD 0 0 0) (PcH g [.ref (gB g + a0), .int x1] h) (QcL g r h') 0 0 (aB g) := by
  refine Met.ofW (cc := cX2_broughtAlong) (maxL := 5) (ret := some .long) (by decide) rfl ?_
  intro p e s m args below meth c s₁ B hml hv
  obtain ⟨rfl, hH0, hkk0⟩ := hv
  have C : CT g RX2 cX2_broughtAlong 5 (Cond.code yX2_broughtAlong cX2_broughtAlong 5 (some .long) :: TB) p s m _ meth c := pg_ct (Tw := []) B hml hH0 hkk0
  have hr := B.returns
  have hH : HS g s s.heap [] h := ⟨hH0, va_S.rf⟩
  have hl := lv_entry ([.ref (gB g + a0), .int x1]) (n := 5) (Nat.le_of_ble_eq_true rfl)
  rw [lg_entry_eq]
  generalize (lg_sl ([.ref (gB g + a0), .int x1]) ++ List.replicate (5 - (lg_sl ([.ref (gB g + a0), .int x1])).length) Slot.unset).toArray = ls at hl ⊢
  have hl : lv_has ls 5 [(0, .ref (gB g + a0)), (1, .int x1)] := hl
  show W p l e (rmD 0 0 0) _ _ _ _ _ _ _ _ _ _ _ _
  unfold mX2_broughtAlong at hf
  obtain ⟨hO, hf⟩ := oO_sp hf
  obtain ⟨⟨hx, hb, hml, hown, hts⟩, htb, hlk, hkk, hbs⟩ := id C
  refine lv_aload_n hx hb dX2_broughtAlong_0 rfl (lv_at hl 0 rfl) ?_
  refine pg_gR C hH fl_X2_38 hf dX2_broughtAlong_1 (fun v1 hf => ?_)
  refine pg_gR C hH fl_X2_54 hf dX2_broughtAlong_4 (fun v4 hf => ?_)
  refine lv_iload_n hx hb dX2_broughtAlong_7 rfl (lv_at hl 1 rfl) ?_
  refine pg_aR C hH (Or.inr rfl) hf dX2_broughtAlong_8 (fun v8 hf => ?_)
  refine lv_bipush (v := (9 : Int32)) hx hb dX2_broughtAlong_9 (by decide) ?_
  refine pg_aI C hH hf dX2_broughtAlong_11 (fun v11 hf => ?_)
  refine lv_aload_n hx hb dX2_broughtAlong_12 rfl (lv_at hl 0 rfl) ?_
  refine pg_gR C hH fl_X2_38 hf dX2_broughtAlong_13 (fun v13 hf => ?_)
  refine pg_gR C hH fl_X2_54 hf dX2_broughtAlong_16 (fun v16 hf => ?_)
  refine lv_iload_n hx hb dX2_broughtAlong_19 rfl (lv_at hl 1 rfl) ?_
  refine pg_aR C hH (Or.inr rfl) hf dX2_broughtAlong_20 (fun v20 hf => ?_)
  refine lv_bipush (v := (10 : Int32)) hx hb dX2_broughtAlong_21 (by decide) ?_
  refine pg_aI C hH hf dX2_broughtAlong_23 (fun v23 hf => ?_)
  refine lv_iadd hx hb dX2_broughtAlong_24 ?_
  refine lv_i2l (v := (Int32.toInt64 (v11 + v23))) hx hb dX2_broughtAlong_25 rfl ?_
  refine lv_lstore_n (lv' := [(2, .long (Int32.toInt64 (v11 + v23))), (0, .ref (gB g + a0)), (1, .int x1)]) hx hb dX2_broughtAlong_26 rfl hl (by decide) rfl (fun ls hl => ?_)
  refine lv_iconst (v := (0 : Int32)) hx hb dX2_broughtAlong_27 (by decide) ?_
  refine lv_istore (lv' := [(4, .int (0 : Int32)), (2, .long (Int32.toInt64 (v11 + v23))), (0, .ref (gB g + a0)), (1, .int x1)]) hx hb dX2_broughtAlong_28 hl (by decide) rfl (fun ls hl => ?_)
  exact wX2_broughtAlong_L30 C hr FU hH hf (lv_sub hl [2, 3, 1, 0] rfl)
set_option maxHeartbeats 4000000 in
set_option maxRecDepth 100000 in
theorem c_X8_areSimilar {l : Launch} {g : GD} {h : PH} {a0 : Nat} {x1 : Int32} {x2 : Int32} {r : Int32} {h' : PH} (hf : mX8_areSimilar h a0 x1 x2 = some (r, h')) : Met l yX8_areSimilar (Cond.code yX8_areSimilar cX8_areSimilar 3 (some .boolean) :: TB) (rmD 0 0 0) (PcH g [.ref (gB g + a0), .int x1, .int x2] h) (QcI g r h') 0 0 (aB g) := by
  refine Met.ofW (cc := cX8_areSimilar) (maxL := 3) (ret := some .boolean) (by decide) rfl ?_
  intro p e s m args below meth c s₁ B hml hv
  obtain ⟨rfl, hH0, hkk0⟩ := hv
  have C : CT g RX8 cX8_areSimilar 3 (Cond.code yX8_areSimilar cX8_areSimilar 3 (some .boolean) :: TB) p s m _ meth c := pg_ct (Tw := []) B hml hH0 hkk0
  have hr := B.returns
  have hH : HS g s s.heap [] h := ⟨hH0, va_S.rf⟩
  have hl := lv_entry ([.ref (gB g + a0), .int x1, .int x2]) (n := 3) (Nat.le_of_ble_eq_true rfl)
  rw [lg_entry_eq]
  generalize (lg_sl ([.ref (gB g + a0), .int x1, .int x2]) ++ List.replicate (3 - (lg_sl ([.ref (gB g + a0), .int x1, .int x2])).length) Slot.unset).toArray = ls at hl ⊢
  have hl : lv_has ls 3 [(0, .ref (gB g + a0)), (1, .int x1), (2, .int x2)] := hl
  show W p l e (rmD 0 0 0) _ _ _ _ _ _ _ _ _ _ _ _
  unfold mX8_areSimilar at hf
  obtain ⟨hO, hf⟩ := oO_sp hf
  obtain ⟨⟨hx, hb, hml, hown, hts⟩, htb, hlk, hkk, hbs⟩ := id C
  refine lv_iload_n hx hb dX8_areSimilar_0 rfl (lv_at hl 1 rfl) ?_
  refine lv_iload_n hx hb dX8_areSimilar_1 rfl (lv_at hl 2 rfl) ?_
  refine lv_icmp_eq (tgt := 47) hx hb dX8_areSimilar_2 (by decide) (fun cn => ?_) (fun cn => ?_)
  · have hf := (if_pos cn).symm.trans hf
    refine lv_iconst (v := (0 : Int32)) hx hb dX8_areSimilar_47 (by decide) ?_
    exact pg_zret C hr hH hf dX8_areSimilar_48
  · have hf := (if_neg cn).symm.trans hf
    refine lv_aload_n hx hb dX8_areSimilar_5 rfl (lv_at hl 0 rfl) ?_
    refine pg_gR C hH fl_X8_20 hf dX8_areSimilar_6 (fun v6 hf => ?_)
    refine lv_iload_n hx hb dX8_areSimilar_9 rfl (lv_at hl 1 rfl) ?_
    refine pg_aR C hH (Or.inr rfl) hf dX8_areSimilar_10 (fun v10 hf => ?_)
    refine lv_iconst (v := (0 : Int32)) hx hb dX8_areSimilar_11 (by decide) ?_
    refine pg_aI C hH hf dX8_areSimilar_12 (fun v12 hf => ?_)
    refine lv_aload_n hx hb dX8_areSimilar_13 rfl (lv_at hl 0 rfl) ?_
    refine pg_gR C hH fl_X8_20 hf dX8_areSimilar_14 (fun v14 hf => ?_)
    refine lv_iload_n hx hb dX8_areSimilar_17 rfl (lv_at hl 2 rfl) ?_
    refine pg_aR C hH (Or.inr rfl) hf dX8_areSimilar_18 (fun v18 hf => ?_)
    refine lv_iconst (v := (0 : Int32)) hx hb dX8_areSimilar_19 (by decide) ?_
    refine pg_aI C hH hf dX8_areSimilar_20 (fun v20 hf => ?_)
    refine lv_icmp_ne (tgt := 47) hx hb dX8_areSimilar_21 (by decide) (fun cn => ?_) (fun cn => ?_)
    · have hf := (if_neg cn).symm.trans hf
      refine lv_iconst (v := (0 : Int32)) hx hb dX8_areSimilar_47 (by decide) ?_
      exact pg_zret C hr hH hf dX8_areSimilar_48
    · have hf := (if_pos cn).symm.trans hf
      refine lv_aload_n hx hb dX8_areSimilar_24 rfl (lv_at hl 0 rfl) ?_
      refine pg_gR C hH fl_X8_20 hf dX8_areSimilar_25 (fun v25 hf => ?_)
      refine lv_iload_n hx hb dX8_areSimilar_28 rfl (lv_at hl 1 rfl) ?_
      refine pg_aR C hH (Or.inr rfl) hf dX8_areSimilar_29 (fun v29 hf => ?_)
      refine lv_iconst (v := (1 : Int32)) hx hb dX8_areSimilar_30 (by decide) ?_
      refine pg_aI C hH hf dX8_areSimilar_31 (fun v31 hf => ?_)
      refine lv_aload_n hx hb dX8_areSimilar_32 rfl (lv_at hl 0 rfl) ?_
      refine pg_gR C hH fl_X8_20 hf dX8_areSimilar_33 (fun v33 hf => ?_)
      refine lv_iload_n hx hb dX8_areSimilar_36 rfl (lv_at hl 2 rfl) ?_
      refine pg_aR C hH (Or.inr rfl) hf dX8_areSimilar_37 (fun v37 hf => ?_)
      refine lv_iconst (v := (1 : Int32)) hx hb dX8_areSimilar_38 (by decide) ?_
      refine pg_aI C hH hf dX8_areSimilar_39 (fun v39 hf => ?_)
      refine lv_icmp_ne (tgt := 47) hx hb dX8_areSimilar_40 (by decide) (fun cn => ?_) (fun cn => ?_)
      · have hf := (if_neg cn).symm.trans hf
        refine lv_iconst (v := (0 : Int32)) hx hb dX8_areSimilar_47 (by decide) ?_
        exact pg_zret C hr hH hf dX8_areSimilar_48
      · have hf := (if_pos cn).symm.trans hf
        refine lv_iconst (v := (1 : Int32)) hx hb dX8_areSimilar_43 (by decide) ?_
        refine lv_goto (tgt := 48) hx hb dX8_areSimilar_44 (by decide) ?_
        exact pg_zret C hr hH hf dX8_areSimilar_48
set_option maxHeartbeats 4000000 in
set_option maxRecDepth 100000 in
theorem wX2_rowsFor_b100 {r18 : PH → Nat → Int32 → Int32 → Int32 → Int32 → Int32 → Option (Int32 × PH)} {r : Int32} {h' : PH} (C : CT g RX2 cX2_rowsFor 9 (Cond.code yX2_rowsFor cX2_rowsFor 9 (some .int) :: TB) p s m args meth c) (hr : meth.sig.returnType = some .int) (k18 : ∀ {h : PH} {a0 : Nat} {x1 : Int32} {x2 : Int32} {x3 : Int32} {x4 : Int32} {x5 : Int32} {H : Heap} {locs : List Loc} {ls : Array Slot}, HS g s H locs h → r18 h a0 x1 x2 x3 x4 x5 = some (r, h') → lv_has ls 9 [(0, .ref (gB g + a0)), (1, .int x1), (2, .int x2), (3, .int x3), (4, .int x4), (5, .int x5)] → W p l e (rmD 1 0 0) s m args below meth c H locs 0 0 (MQ below (QcI g r h') args s 0 0 (aB g)) (F0 m 18 ls [])) {h : PH} {a0 : Nat} {x1 : Int32} {x2 : Int32} {x3 : Int32} {x4 : Int32} {x5 : Int32} {x7 : Int32} {s0 : Int32} {H : Heap} {locs : List Loc} {ls : Array Slot} (hH : HS g s H locs h) (hf : mX2_rowsFor_b100 r18 h a0 x1 x2 x3 x4 x5 x7 s0 = some (r, h')) (hl : lv_has ls 9 [(0, .ref (gB g + a0)), (1, .int x1), (2, .int x2), (3, .int x3), (4, .int x4), (5, .int x5), (7, .int x7)]) : W p l e (rmD 1 0 0) s m args below meth c H locs 0 0 (MQ below (QcI g r h') args s 0 0 (aB g)) (F0 m 100 ls [.int s0]) := by
  obtain ⟨⟨hx, hb, hml, hown, hts⟩, htb, hlk, hkk, hbs⟩ := id C
  unfold mX2_rowsFor_b100 at hf
  refine lv_istore (lv' := [(8, .int s0), (0, .ref (gB g + a0)), (1, .int x1), (2, .int x2), (3, .int x3), (4, .int x4), (5, .int x5), (7, .int x7)]) hx hb dX2_rowsFor_100 hl (by decide) rfl (fun ls hl => ?_)
  refine lv_iload hx hb dX2_rowsFor_102 (lv_at hl 0 rfl) ?_
  refine lv_if_eq (tgt := 138) hx hb dX2_rowsFor_104 (by decide) (fun cn => ?_) (fun cn => ?_)
  · have hf := (if_pos cn).symm.trans hf
    refine lv_iinc (v := (x5 + 1)) (lv' := [(5, .int (x5 + 1)), (8, .int s0), (0, .ref (gB g + a0)), (1, .int x1), (2, .int x2), (3, .int x3), (4, .int x4), (7, .int x7)]) hx hb dX2_rowsFor_138 hl (k := 6) rfl rfl (by decide) rfl (fun ls hl => ?_)
    refine lv_goto (tgt := 18) hx hb dX2_rowsFor_141 (by decide) ?_
    exact k18 hH hf (lv_sub hl [2, 3, 4, 5, 6, 0] rfl)
  · have hf := (if_neg cn).symm.trans hf
    refine lv_iload hx hb dX2_rowsFor_107 (lv_at hl 7 rfl) ?_
    refine lv_if_lt (tgt := 138) hx hb dX2_rowsFor_109 (by decide) (fun cn => ?_) (fun cn => ?_)
    · have hf := (if_pos cn).symm.trans hf
      refine lv_iinc (v := (x5 + 1)) (lv' := [(5, .int (x5 + 1)), (8, .int s0), (0, .ref (gB g + a0)), (1, .int x1), (2, .int x2), (3, .int x3), (4, .int x4), (7, .int x7)]) hx hb dX2_rowsFor_138 hl (k := 6) rfl rfl (by decide) rfl (fun ls hl => ?_)
      refine lv_goto (tgt := 18) hx hb dX2_rowsFor_141 (by decide) ?_
      exact k18 hH hf (lv_sub hl [2, 3, 4, 5, 6, 0] rfl)
    · have hf := (if_neg cn).symm.trans hf
      refine lv_iload hx hb dX2_rowsFor_112 (lv_at hl 7 rfl) ?_
      refine lv_iconst (v := (3 : Int32)) hx hb dX2_rowsFor_114 (by decide) ?_
      refine lv_aload_n hx hb dX2_rowsFor_115 rfl (lv_at hl 1 rfl) ?_
      refine pg_gR C hH fl_X2_38 hf dX2_rowsFor_116 (fun v116 hf => ?_)
      refine pg_gR C hH fl_X2_45 hf dX2_rowsFor_119 (fun v119 hf => ?_)
      refine lv_bipush (v := (7 : Int32)) hx hb dX2_rowsFor_122 (by decide) ?_
      refine pg_aI C hH hf dX2_rowsFor_124 (fun v124 hf => ?_)
      refine lv_imul hx hb dX2_rowsFor_125 ?_
      refine lv_icmp_gt (tgt := 138) hx hb dX2_rowsFor_126 (by decide) (fun cn => ?_) (fun cn => ?_)
      · have hf := (if_pos cn).symm.trans hf
        refine lv_iinc (v := (x5 + 1)) (lv' := [(5, .int (x5 + 1)), (8, .int s0), (0, .ref (gB g + a0)), (1, .int x1), (2, .int x2), (3, .int x3), (4, .int x4), (7, .int x7)]) hx hb dX2_rowsFor_138 hl (k := 6) rfl rfl (by decide) rfl (fun ls hl => ?_)
        refine lv_goto (tgt := 18) hx hb dX2_rowsFor_141 (by decide) ?_
        exact k18 hH hf (lv_sub hl [2, 3, 4, 5, 6, 0] rfl)
      · have hf := (if_neg cn).symm.trans hf
        refine lv_iload hx hb dX2_rowsFor_129 (lv_at hl 5 rfl) ?_
        refine lv_iconst (v := (1 : Int32)) hx hb dX2_rowsFor_131 (by decide) ?_
        refine lv_iload hx hb dX2_rowsFor_132 (lv_at hl 6 rfl) ?_
        refine lv_ishl hx hb dX2_rowsFor_134 ?_
        refine lv_ior hx hb dX2_rowsFor_135 ?_
        refine lv_istore (lv' := [(4, .int (x4 ||| ((1 : Int32) <<< (x5 &&& 31)))), (8, .int s0), (0, .ref (gB g + a0)), (1, .int x1), (2, .int x2), (3, .int x3), (5, .int x5), (7, .int x7)]) hx hb dX2_rowsFor_136 hl (by decide) rfl (fun ls hl => ?_)
        refine lv_iinc (v := (x5 + 1)) (lv' := [(5, .int (x5 + 1)), (4, .int (x4 ||| ((1 : Int32) <<< (x5 &&& 31)))), (8, .int s0), (0, .ref (gB g + a0)), (1, .int x1), (2, .int x2), (3, .int x3), (7, .int x7)]) hx hb dX2_rowsFor_138 hl (k := 6) rfl rfl (by decide) rfl (fun ls hl => ?_)
        refine lv_goto (tgt := 18) hx hb dX2_rowsFor_141 (by decide) ?_
        exact k18 hH hf (lv_sub hl [3, 4, 5, 6, 1, 0] rfl)
set_option maxHeartbeats 4000000 in
set_option maxRecDepth 100000 in
theorem wX2_rowsFor_b18 {r18 : PH → Nat → Int32 → Int32 → Int32 → Int32 → Int32 → Option (Int32 × PH)} {r : Int32} {h' : PH} (C : CT g RX2 cX2_rowsFor 9 (Cond.code yX2_rowsFor cX2_rowsFor 9 (some .int) :: TB) p s m args meth c) (hr : meth.sig.returnType = some .int) (k18 : ∀ {h : PH} {a0 : Nat} {x1 : Int32} {x2 : Int32} {x3 : Int32} {x4 : Int32} {x5 : Int32} {H : Heap} {locs : List Loc} {ls : Array Slot}, HS g s H locs h → r18 h a0 x1 x2 x3 x4 x5 = some (r, h') → lv_has ls 9 [(0, .ref (gB g + a0)), (1, .int x1), (2, .int x2), (3, .int x3), (4, .int x4), (5, .int x5)] → W p l e (rmD 1 0 0) s m args below meth c H locs 0 0 (MQ below (QcI g r h') args s 0 0 (aB g)) (F0 m 18 ls [])) {h : PH} {a0 : Nat} {x1 : Int32} {x2 : Int32} {x3 : Int32} {x4 : Int32} {x5 : Int32} {H : Heap} {locs : List Loc} {ls : Array Slot} (hH : HS g s H locs h) (hf : mX2_rowsFor_b18 r18 h a0 x1 x2 x3 x4 x5 = some (r, h')) (hl : lv_has ls 9 [(0, .ref (gB g + a0)), (1, .int x1), (2, .int x2), (3, .int x3), (4, .int x4), (5, .int x5)]) : W p l e (rmD 1 0 0) s m args below meth c H locs 0 0 (MQ below (QcI g r h') args s 0 0 (aB g)) (F0 m 18 ls []) := by
  obtain ⟨⟨hx, hb, hml, hown, hts⟩, htb, hlk, hkk, hbs⟩ := id C
  unfold mX2_rowsFor_b18 at hf
  refine lv_iload hx hb dX2_rowsFor_18 (lv_at hl 5 rfl) ?_
  refine lv_aload_n hx hb dX2_rowsFor_20 rfl (lv_at hl 0 rfl) ?_
  refine pg_gR C hH fl_X2_38 hf dX2_rowsFor_21 (fun v21 hf => ?_)
  refine pg_gR C hH fl_X2_45 hf dX2_rowsFor_24 (fun v24 hf => ?_)
  refine lv_iconst (v := (4 : Int32)) hx hb dX2_rowsFor_27 (by decide) ?_
  refine pg_aI C hH hf dX2_rowsFor_28 (fun v28 hf => ?_)
  refine lv_icmp_ge (tgt := 144) hx hb dX2_rowsFor_29 (by decide) (fun cn => ?_) (fun cn => ?_)
  · have hf := (if_pos cn).symm.trans hf
    refine lv_iload hx hb dX2_rowsFor_144 (lv_at hl 4 rfl) ?_
    exact pg_iret C hr hH hf dX2_rowsFor_146
  · have hf := (if_neg cn).symm.trans hf
    refine lv_aload_n hx hb dX2_rowsFor_32 rfl (lv_at hl 0 rfl) ?_
    refine pg_gR C hH fl_X2_38 hf dX2_rowsFor_33 (fun v33 hf => ?_)
    refine pg_gR C hH fl_X2_110 hf dX2_rowsFor_36 (fun v36 hf => ?_)
    refine lv_iload hx hb dX2_rowsFor_39 (lv_at hl 5 rfl) ?_
    refine pg_aR C hH (Or.inr rfl) hf dX2_rowsFor_41 (fun v41 hf => ?_)
    refine lv_iconst (v := (0 : Int32)) hx hb dX2_rowsFor_42 (by decide) ?_
    refine pg_aI C hH hf dX2_rowsFor_43 (fun v43 hf => ?_)
    refine lv_istore (lv' := [(6, .int v43), (0, .ref (gB g + a0)), (1, .int x1), (2, .int x2), (3, .int x3), (4, .int x4), (5, .int x5)]) hx hb dX2_rowsFor_44 hl (by decide) rfl (fun ls hl => ?_)
    refine lv_aload_n hx hb dX2_rowsFor_46 rfl (lv_at hl 1 rfl) ?_
    refine pg_gR C hH fl_X2_38 hf dX2_rowsFor_47 (fun v47 hf => ?_)
    refine pg_gR C hH fl_X2_110 hf dX2_rowsFor_50 (fun v50 hf => ?_)
    refine lv_iload hx hb dX2_rowsFor_53 (lv_at hl 6 rfl) ?_
    refine pg_aR C hH (Or.inr rfl) hf dX2_rowsFor_55 (fun v55 hf => ?_)
    refine lv_iconst (v := (3 : Int32)) hx hb dX2_rowsFor_56 (by decide) ?_
    refine pg_aI C hH hf dX2_rowsFor_57 (fun v57 hf => ?_)
    refine lv_aload_n hx hb dX2_rowsFor_58 rfl (lv_at hl 1 rfl) ?_
    refine pg_gR C hH fl_X2_38 hf dX2_rowsFor_59 (fun v59 hf => ?_)
    refine pg_gR C hH fl_X2_54 hf dX2_rowsFor_62 (fun v62 hf => ?_)
    refine lv_iload_n hx hb dX2_rowsFor_65 rfl (lv_at hl 2 rfl) ?_
    refine pg_aR C hH (Or.inr rfl) hf dX2_rowsFor_66 (fun v66 hf => ?_)
    refine lv_iconst (v := (5 : Int32)) hx hb dX2_rowsFor_67 (by decide) ?_
    refine pg_aI C hH hf dX2_rowsFor_68 (fun v68 hf => ?_)
    refine lv_isub hx hb dX2_rowsFor_69 ?_
    refine lv_istore (lv' := [(7, .int (v57 - v68)), (6, .int v43), (0, .ref (gB g + a0)), (1, .int x1), (2, .int x2), (3, .int x3), (4, .int x4), (5, .int x5)]) hx hb dX2_rowsFor_70 hl (by decide) rfl (fun ls hl => ?_)
    refine lv_iload_n hx hb dX2_rowsFor_72 rfl (lv_at hl 4 rfl) ?_
    refine lv_if_eq (tgt := 89) hx hb dX2_rowsFor_73 (by decide) (fun cn => ?_) (fun cn => ?_)
    · have hf := (if_pos cn).symm.trans hf
      refine lv_iload_n hx hb dX2_rowsFor_89 rfl (lv_at hl 5 rfl) ?_
      refine lv_iload hx hb dX2_rowsFor_90 (lv_at hl 1 rfl) ?_
      refine lv_icmp_ne (tgt := 99) hx hb dX2_rowsFor_92 (by decide) (fun cn => ?_) (fun cn => ?_)
      · have hf := (if_neg cn).symm.trans hf
        refine lv_iconst (v := (0 : Int32)) hx hb dX2_rowsFor_99 (by decide) ?_
        exact wX2_rowsFor_b100 C hr k18 hH hf (lv_sub hl [2, 3, 4, 5, 6, 7, 0] rfl)
      · have hf := (if_pos cn).symm.trans hf
        refine lv_iconst (v := (1 : Int32)) hx hb dX2_rowsFor_95 (by decide) ?_
        refine lv_goto (tgt := 100) hx hb dX2_rowsFor_96 (by decide) ?_
        exact wX2_rowsFor_b100 C hr k18 hH hf (lv_sub hl [2, 3, 4, 5, 6, 7, 0] rfl)
    · have hf := (if_neg cn).symm.trans hf
      refine lv_aload_n hx hb dX2_rowsFor_76 rfl (lv_at hl 2 rfl) ?_
      refine pg_gR C hH fl_X2_38 hf dX2_rowsFor_77 (fun v77 hf => ?_)
      refine lv_iload_n hx hb dX2_rowsFor_80 rfl (lv_at hl 5 rfl) ?_
      refine lv_iload hx hb dX2_rowsFor_81 (lv_at hl 1 rfl) ?_
      refine pg_Vi (As := [.int x3, .int v43]) C hH mi_X8_areSimilar vl_X2_113 (q := (RX8, TX8, 8)) (ci := 8) rfl rfl hf (fun _ e1 => (oO_sp e1).1) (fun _ _ e1 => c_X8_areSimilar e1) rfl rfl hl.1 (Nat.le_of_ble_eq_true rfl) ⟨Nat.le_of_ble_eq_true rfl, Nat.le_of_ble_eq_true rfl⟩ ⟨Nat.zero_le _, Nat.zero_le _⟩ dX2_rowsFor_83 (fun H locs v83 h83 hH hf => ?_)
      refine lv_goto (tgt := 100) hx hb dX2_rowsFor_86 (by decide) ?_
      exact wX2_rowsFor_b100 C hr k18 hH hf (lv_sub hl [2, 3, 4, 5, 6, 7, 0] rfl)
set_option maxHeartbeats 4000000 in
set_option maxRecDepth 100000 in
theorem wX2_rowsFor_L18 {r : Int32} {h' : PH} (C : CT g RX2 cX2_rowsFor 9 (Cond.code yX2_rowsFor cX2_rowsFor 9 (some .int) :: TB) p s m args meth c) (hr : meth.sig.returnType = some .int) : ∀ (n : Nat) {h : PH} {a0 : Nat} {x1 : Int32} {x2 : Int32} {x3 : Int32} {x4 : Int32} {x5 : Int32} {H : Heap} {locs : List Loc} {ls : Array Slot}, HS g s H locs h → mX2_rowsFor_L18 n h a0 x1 x2 x3 x4 x5 = some (r, h') → lv_has ls 9 [(0, .ref (gB g + a0)), (1, .int x1), (2, .int x2), (3, .int x3), (4, .int x4), (5, .int x5)] → W p l e (rmD 1 0 0) s m args below meth c H locs 0 0 (MQ below (QcI g r h') args s 0 0 (aB g)) (F0 m 18 ls []) := by
  intro n
  induction n with
  | zero =>
    intro h a0 x1 x2 x3 x4 x5 H locs ls hH hf hl
    exact absurd hf (by intro z; cases z)
  | succ n ih =>
    intro h a0 x1 x2 x3 x4 x5 H locs ls hH hf hl
    have hf : mX2_rowsFor_b18 (mX2_rowsFor_L18 n) h a0 x1 x2 x3 x4 x5 = some (r, h') := hf
    exact wX2_rowsFor_b18 C hr (fun a b c => ih a b c) hH hf hl
set_option maxHeartbeats 4000000 in
set_option maxRecDepth 100000 in
theorem c_X2_rowsFor {l : Launch} {g : GD} {h : PH} {a0 : Nat} {x1 : Int32} {x2 : Int32} {r : Int32} {h' : PH} (hf : mX2_rowsFor h a0 x1 x2 = some (r, h')) : Met l yX2_rowsFor (Cond.code yX2_rowsFor cX2_rowsFor 9 (some .int) :: TB) (rmD 1 0 0) (PcH g [.ref (gB g + a0), .int x1, .int x2] h) (QcI g r h') 0 0 (aB g) := by
  refine Met.ofW (cc := cX2_rowsFor) (maxL := 9) (ret := some .int) (by decide) rfl ?_
  intro p e s m args below meth c s₁ B hml hv
  obtain ⟨rfl, hH0, hkk0⟩ := hv
  have C : CT g RX2 cX2_rowsFor 9 (Cond.code yX2_rowsFor cX2_rowsFor 9 (some .int) :: TB) p s m _ meth c := pg_ct (Tw := []) B hml hH0 hkk0
  have hr := B.returns
  have hH : HS g s s.heap [] h := ⟨hH0, va_S.rf⟩
  have hl := lv_entry ([.ref (gB g + a0), .int x1, .int x2]) (n := 9) (Nat.le_of_ble_eq_true rfl)
  rw [lg_entry_eq]
  generalize (lg_sl ([.ref (gB g + a0), .int x1, .int x2]) ++ List.replicate (9 - (lg_sl ([.ref (gB g + a0), .int x1, .int x2])).length) Slot.unset).toArray = ls at hl ⊢
  have hl : lv_has ls 9 [(0, .ref (gB g + a0)), (1, .int x1), (2, .int x2)] := hl
  show W p l e (rmD 1 0 0) _ _ _ _ _ _ _ _ _ _ _ _
  unfold mX2_rowsFor at hf
  obtain ⟨hO, hf⟩ := oO_sp hf
  obtain ⟨⟨hx, hb, hml, hown, hts⟩, htb, hlk, hkk, hbs⟩ := id C
  refine lv_aload_n hx hb dX2_rowsFor_0 rfl (lv_at hl 0 rfl) ?_
  refine pg_gR C hH fl_X2_38 hf dX2_rowsFor_1 (fun v1 hf => ?_)
  refine pg_gR C hH fl_X2_54 hf dX2_rowsFor_4 (fun v4 hf => ?_)
  refine lv_iload_n hx hb dX2_rowsFor_7 rfl (lv_at hl 1 rfl) ?_
  refine pg_aR C hH (Or.inr rfl) hf dX2_rowsFor_8 (fun v8 hf => ?_)
  refine lv_iconst (v := (0 : Int32)) hx hb dX2_rowsFor_9 (by decide) ?_
  refine pg_aI C hH hf dX2_rowsFor_10 (fun v10 hf => ?_)
  refine lv_istore_n (lv' := [(3, .int v10), (0, .ref (gB g + a0)), (1, .int x1), (2, .int x2)]) hx hb dX2_rowsFor_11 rfl hl (by decide) rfl (fun ls hl => ?_)
  refine lv_iconst (v := (0 : Int32)) hx hb dX2_rowsFor_12 (by decide) ?_
  refine lv_istore (lv' := [(4, .int (0 : Int32)), (3, .int v10), (0, .ref (gB g + a0)), (1, .int x1), (2, .int x2)]) hx hb dX2_rowsFor_13 hl (by decide) rfl (fun ls hl => ?_)
  refine lv_iconst (v := (0 : Int32)) hx hb dX2_rowsFor_15 (by decide) ?_
  refine lv_istore (lv' := [(5, .int (0 : Int32)), (4, .int (0 : Int32)), (3, .int v10), (0, .ref (gB g + a0)), (1, .int x1), (2, .int x2)]) hx hb dX2_rowsFor_16 hl (by decide) rfl (fun ls hl => ?_)
  exact wX2_rowsFor_L18 C hr FU hH hf (lv_sub hl [3, 4, 5, 2, 1, 0] rfl)
set_option maxHeartbeats 4000000 in
set_option maxRecDepth 100000 in
theorem wX2_piecesAt_b5 {r5 : PH → Nat → Int32 → Int32 → Int32 → Int32 → Option (Int32 × PH)} {r : Int32} {h' : PH} (C : CT g RX2 cX2_piecesAt 5 (Cond.code yX2_piecesAt cX2_piecesAt 5 (some .int) :: TB) p s m args meth c) (hr : meth.sig.returnType = some .int) (k5 : ∀ {h : PH} {a0 : Nat} {x1 : Int32} {x2 : Int32} {x3 : Int32} {x4 : Int32} {H : Heap} {locs : List Loc} {ls : Array Slot}, HS g s H locs h → r5 h a0 x1 x2 x3 x4 = some (r, h') → lv_has ls 5 [(0, .ref (gB g + a0)), (1, .int x1), (2, .int x2), (3, .int x3), (4, .int x4)] → W p l e (rmD 0 0 0) s m args below meth c H locs 0 0 (MQ below (QcI g r h') args s 0 0 (aB g)) (F0 m 5 ls [])) {h : PH} {a0 : Nat} {x1 : Int32} {x2 : Int32} {x3 : Int32} {x4 : Int32} {H : Heap} {locs : List Loc} {ls : Array Slot} (hH : HS g s H locs h) (hf : mX2_piecesAt_b5 r5 h a0 x1 x2 x3 x4 = some (r, h')) (hl : lv_has ls 5 [(0, .ref (gB g + a0)), (1, .int x1), (2, .int x2), (3, .int x3), (4, .int x4)]) : W p l e (rmD 0 0 0) s m args below meth c H locs 0 0 (MQ below (QcI g r h') args s 0 0 (aB g)) (F0 m 5 ls []) := by
  obtain ⟨⟨hx, hb, hml, hown, hts⟩, htb, hlk, hkk, hbs⟩ := id C
  unfold mX2_piecesAt_b5 at hf
  refine lv_iload hx hb dX2_piecesAt_5 (lv_at hl 4 rfl) ?_
  refine lv_aload_n hx hb dX2_piecesAt_7 rfl (lv_at hl 0 rfl) ?_
  refine pg_gR C hH fl_X2_38 hf dX2_piecesAt_8 (fun v8 hf => ?_)
  refine pg_gR C hH fl_X2_45 hf dX2_piecesAt_11 (fun v11 hf => ?_)
  refine lv_iconst (v := (4 : Int32)) hx hb dX2_piecesAt_14 (by decide) ?_
  refine pg_aI C hH hf dX2_piecesAt_15 (fun v15 hf => ?_)
  refine lv_icmp_ge (tgt := 65) hx hb dX2_piecesAt_16 (by decide) (fun cn => ?_) (fun cn => ?_)
  · have hf := (if_pos cn).symm.trans hf
    refine lv_iload_n hx hb dX2_piecesAt_65 rfl (lv_at hl 3 rfl) ?_
    exact pg_iret C hr hH hf dX2_piecesAt_66
  · have hf := (if_neg cn).symm.trans hf
    refine lv_iload_n hx hb dX2_piecesAt_19 rfl (lv_at hl 1 rfl) ?_
    refine lv_iload hx hb dX2_piecesAt_20 (lv_at hl 4 rfl) ?_
    refine lv_ishr hx hb dX2_piecesAt_22 ?_
    refine lv_iconst (v := (1 : Int32)) hx hb dX2_piecesAt_23 (by decide) ?_
    refine lv_iand hx hb dX2_piecesAt_24 ?_
    refine lv_if_eq (tgt := 59) hx hb dX2_piecesAt_25 (by decide) (fun cn => ?_) (fun cn => ?_)
    · have hf := (if_pos cn).symm.trans hf
      refine lv_iinc (v := (x4 + 1)) (lv' := [(4, .int (x4 + 1)), (0, .ref (gB g + a0)), (1, .int x1), (2, .int x2), (3, .int x3)]) hx hb dX2_piecesAt_59 hl (k := 4) rfl rfl (by decide) rfl (fun ls hl => ?_)
      refine lv_goto (tgt := 5) hx hb dX2_piecesAt_62 (by decide) ?_
      exact k5 hH hf (lv_sub hl [1, 2, 3, 4, 0] rfl)
    · have hf := (if_neg cn).symm.trans hf
      refine lv_aload_n hx hb dX2_piecesAt_28 rfl (lv_at hl 0 rfl) ?_
      refine pg_gR C hH fl_X2_38 hf dX2_piecesAt_29 (fun v29 hf => ?_)
      refine pg_gR C hH fl_X2_110 hf dX2_piecesAt_32 (fun v32 hf => ?_)
      refine lv_iload hx hb dX2_piecesAt_35 (lv_at hl 4 rfl) ?_
      refine pg_aR C hH (Or.inr rfl) hf dX2_piecesAt_37 (fun v37 hf => ?_)
      refine lv_iconst (v := (2 : Int32)) hx hb dX2_piecesAt_38 (by decide) ?_
      refine pg_aI C hH hf dX2_piecesAt_39 (fun v39 hf => ?_)
      refine lv_iload_n hx hb dX2_piecesAt_40 rfl (lv_at hl 2 rfl) ?_
      refine lv_icmp_ne (tgt := 59) hx hb dX2_piecesAt_41 (by decide) (fun cn => ?_) (fun cn => ?_)
      · have hf := (if_neg cn).symm.trans hf
        refine lv_iinc (v := (x4 + 1)) (lv' := [(4, .int (x4 + 1)), (0, .ref (gB g + a0)), (1, .int x1), (2, .int x2), (3, .int x3)]) hx hb dX2_piecesAt_59 hl (k := 4) rfl rfl (by decide) rfl (fun ls hl => ?_)
        refine lv_goto (tgt := 5) hx hb dX2_piecesAt_62 (by decide) ?_
        exact k5 hH hf (lv_sub hl [1, 2, 3, 4, 0] rfl)
      · have hf := (if_pos cn).symm.trans hf
        refine lv_iload_n hx hb dX2_piecesAt_44 rfl (lv_at hl 3 rfl) ?_
        refine lv_aload_n hx hb dX2_piecesAt_45 rfl (lv_at hl 0 rfl) ?_
        refine pg_gR C hH fl_X2_38 hf dX2_piecesAt_46 (fun v46 hf => ?_)
        refine pg_gR C hH fl_X2_110 hf dX2_piecesAt_49 (fun v49 hf => ?_)
        refine lv_iload hx hb dX2_piecesAt_52 (lv_at hl 4 rfl) ?_
        refine pg_aR C hH (Or.inr rfl) hf dX2_piecesAt_54 (fun v54 hf => ?_)
        refine lv_iconst (v := (1 : Int32)) hx hb dX2_piecesAt_55 (by decide) ?_
        refine pg_aI C hH hf dX2_piecesAt_56 (fun v56 hf => ?_)
        refine lv_iadd hx hb dX2_piecesAt_57 ?_
        refine lv_istore_n (lv' := [(3, .int (x3 + v56)), (0, .ref (gB g + a0)), (1, .int x1), (2, .int x2), (4, .int x4)]) hx hb dX2_piecesAt_58 rfl hl (by decide) rfl (fun ls hl => ?_)
        refine lv_iinc (v := (x4 + 1)) (lv' := [(4, .int (x4 + 1)), (3, .int (x3 + v56)), (0, .ref (gB g + a0)), (1, .int x1), (2, .int x2)]) hx hb dX2_piecesAt_59 hl (k := 4) rfl rfl (by decide) rfl (fun ls hl => ?_)
        refine lv_goto (tgt := 5) hx hb dX2_piecesAt_62 (by decide) ?_
        exact k5 hH hf (lv_sub hl [2, 3, 4, 1, 0] rfl)
set_option maxHeartbeats 4000000 in
set_option maxRecDepth 100000 in
theorem wX2_piecesAt_L5 {r : Int32} {h' : PH} (C : CT g RX2 cX2_piecesAt 5 (Cond.code yX2_piecesAt cX2_piecesAt 5 (some .int) :: TB) p s m args meth c) (hr : meth.sig.returnType = some .int) : ∀ (n : Nat) {h : PH} {a0 : Nat} {x1 : Int32} {x2 : Int32} {x3 : Int32} {x4 : Int32} {H : Heap} {locs : List Loc} {ls : Array Slot}, HS g s H locs h → mX2_piecesAt_L5 n h a0 x1 x2 x3 x4 = some (r, h') → lv_has ls 5 [(0, .ref (gB g + a0)), (1, .int x1), (2, .int x2), (3, .int x3), (4, .int x4)] → W p l e (rmD 0 0 0) s m args below meth c H locs 0 0 (MQ below (QcI g r h') args s 0 0 (aB g)) (F0 m 5 ls []) := by
  intro n
  induction n with
  | zero =>
    intro h a0 x1 x2 x3 x4 H locs ls hH hf hl
    exact absurd hf (by intro z; cases z)
  | succ n ih =>
    intro h a0 x1 x2 x3 x4 H locs ls hH hf hl
    have hf : mX2_piecesAt_b5 (mX2_piecesAt_L5 n) h a0 x1 x2 x3 x4 = some (r, h') := hf
    exact wX2_piecesAt_b5 C hr (fun a b c => ih a b c) hH hf hl
set_option maxHeartbeats 4000000 in
set_option maxRecDepth 100000 in
theorem c_X2_piecesAt {l : Launch} {g : GD} {h : PH} {a0 : Nat} {x1 : Int32} {x2 : Int32} {r : Int32} {h' : PH} (hf : mX2_piecesAt h a0 x1 x2 = some (r, h')) : Met l yX2_piecesAt (Cond.code yX2_piecesAt cX2_piecesAt 5 (some .int) :: TB) (rmD 0 0 0) (PcH g [.ref (gB g + a0), .int x1, .int x2] h) (QcI g r h') 0 0 (aB g) := by
  refine Met.ofW (cc := cX2_piecesAt) (maxL := 5) (ret := some .int) (by decide) rfl ?_
  intro p e s m args below meth c s₁ B hml hv
  obtain ⟨rfl, hH0, hkk0⟩ := hv
  have C : CT g RX2 cX2_piecesAt 5 (Cond.code yX2_piecesAt cX2_piecesAt 5 (some .int) :: TB) p s m _ meth c := pg_ct (Tw := []) B hml hH0 hkk0
  have hr := B.returns
  have hH : HS g s s.heap [] h := ⟨hH0, va_S.rf⟩
  have hl := lv_entry ([.ref (gB g + a0), .int x1, .int x2]) (n := 5) (Nat.le_of_ble_eq_true rfl)
  rw [lg_entry_eq]
  generalize (lg_sl ([.ref (gB g + a0), .int x1, .int x2]) ++ List.replicate (5 - (lg_sl ([.ref (gB g + a0), .int x1, .int x2])).length) Slot.unset).toArray = ls at hl ⊢
  have hl : lv_has ls 5 [(0, .ref (gB g + a0)), (1, .int x1), (2, .int x2)] := hl
  show W p l e (rmD 0 0 0) _ _ _ _ _ _ _ _ _ _ _ _
  unfold mX2_piecesAt at hf
  obtain ⟨hO, hf⟩ := oO_sp hf
  obtain ⟨⟨hx, hb, hml, hown, hts⟩, htb, hlk, hkk, hbs⟩ := id C
  refine lv_iconst (v := (0 : Int32)) hx hb dX2_piecesAt_0 (by decide) ?_
  refine lv_istore_n (lv' := [(3, .int (0 : Int32)), (0, .ref (gB g + a0)), (1, .int x1), (2, .int x2)]) hx hb dX2_piecesAt_1 rfl hl (by decide) rfl (fun ls hl => ?_)
  refine lv_iconst (v := (0 : Int32)) hx hb dX2_piecesAt_2 (by decide) ?_
  refine lv_istore (lv' := [(4, .int (0 : Int32)), (3, .int (0 : Int32)), (0, .ref (gB g + a0)), (1, .int x1), (2, .int x2)]) hx hb dX2_piecesAt_3 hl (by decide) rfl (fun ls hl => ?_)
  exact wX2_piecesAt_L5 C hr FU hH hf (lv_sub hl [2, 3, 4, 1, 0] rfl)
set_option maxHeartbeats 4000000 in
set_option maxRecDepth 100000 in
theorem wX2_priceOfMost_b7 {r7 : PH → Nat → Int32 → Int32 → Int32 → Int32 → Option (Int32 × PH)} {r : Int32} {h' : PH} (C : CT g RX2 cX2_priceOfMost 7 (Cond.code yX2_priceOfMost cX2_priceOfMost 7 (some .int) :: TB) p s m args meth c) (hr : meth.sig.returnType = some .int) (k7 : ∀ {h : PH} {a0 : Nat} {x1 : Int32} {x2 : Int32} {x3 : Int32} {x4 : Int32} {H : Heap} {locs : List Loc} {ls : Array Slot}, HS g s H locs h → r7 h a0 x1 x2 x3 x4 = some (r, h') → lv_has ls 7 [(0, .ref (gB g + a0)), (1, .int x1), (2, .int x2), (3, .int x3), (4, .int x4)] → W p l e (rmD 1 0 0) s m args below meth c H locs 0 0 (MQ below (QcI g r h') args s 0 0 (aB g)) (F0 m 7 ls [])) {h : PH} {a0 : Nat} {x1 : Int32} {x2 : Int32} {x3 : Int32} {x4 : Int32} {H : Heap} {locs : List Loc} {ls : Array Slot} (hH : HS g s H locs h) (hf : mX2_priceOfMost_b7 r7 h a0 x1 x2 x3 x4 = some (r, h')) (hl : lv_has ls 7 [(0, .ref (gB g + a0)), (1, .int x1), (2, .int x2), (3, .int x3), (4, .int x4)]) : W p l e (rmD 1 0 0) s m args below meth c H locs 0 0 (MQ below (QcI g r h') args s 0 0 (aB g)) (F0 m 7 ls []) := by
  obtain ⟨⟨hx, hb, hml, hown, hts⟩, htb, hlk, hkk, hbs⟩ := id C
  unfold mX2_priceOfMost_b7 at hf
  refine lv_iload hx hb dX2_priceOfMost_7 (lv_at hl 4 rfl) ?_
  refine lv_aload_n hx hb dX2_priceOfMost_9 rfl (lv_at hl 0 rfl) ?_
  refine pg_gR C hH fl_X2_38 hf dX2_priceOfMost_10 (fun v10 hf => ?_)
  refine pg_gR C hH fl_X2_45 hf dX2_priceOfMost_13 (fun v13 hf => ?_)
  refine lv_iconst (v := (4 : Int32)) hx hb dX2_priceOfMost_16 (by decide) ?_
  refine pg_aI C hH hf dX2_priceOfMost_17 (fun v17 hf => ?_)
  refine lv_icmp_ge (tgt := 86) hx hb dX2_priceOfMost_18 (by decide) (fun cn => ?_) (fun cn => ?_)
  · have hf := (if_pos cn).symm.trans hf
    refine lv_iload_n hx hb dX2_priceOfMost_86 rfl (lv_at hl 2 rfl) ?_
    exact pg_iret C hr hH hf dX2_priceOfMost_87
  · have hf := (if_neg cn).symm.trans hf
    refine lv_iload_n hx hb dX2_priceOfMost_21 rfl (lv_at hl 1 rfl) ?_
    refine lv_iload hx hb dX2_priceOfMost_22 (lv_at hl 4 rfl) ?_
    refine lv_ishr hx hb dX2_priceOfMost_24 ?_
    refine lv_iconst (v := (1 : Int32)) hx hb dX2_priceOfMost_25 (by decide) ?_
    refine lv_iand hx hb dX2_priceOfMost_26 ?_
    refine lv_if_ne (tgt := 33) hx hb dX2_priceOfMost_27 (by decide) (fun cn => ?_) (fun cn => ?_)
    · have hf := (if_neg cn).symm.trans hf
      refine lv_aload_n hx hb dX2_priceOfMost_33 rfl (lv_at hl 0 rfl) ?_
      refine pg_gR C hH fl_X2_38 hf dX2_priceOfMost_34 (fun v34 hf => ?_)
      refine pg_gR C hH fl_X2_110 hf dX2_priceOfMost_37 (fun v37 hf => ?_)
      refine lv_iload hx hb dX2_priceOfMost_40 (lv_at hl 4 rfl) ?_
      refine pg_aR C hH (Or.inr rfl) hf dX2_priceOfMost_42 (fun v42 hf => ?_)
      refine lv_iconst (v := (2 : Int32)) hx hb dX2_priceOfMost_43 (by decide) ?_
      refine pg_aI C hH hf dX2_priceOfMost_44 (fun v44 hf => ?_)
      refine lv_istore (lv' := [(5, .int v44), (0, .ref (gB g + a0)), (1, .int x1), (2, .int x2), (3, .int x3), (4, .int x4)]) hx hb dX2_priceOfMost_45 hl (by decide) rfl (fun ls hl => ?_)
      refine lv_aload_n hx hb dX2_priceOfMost_47 rfl (lv_at hl 1 rfl) ?_
      refine lv_iload_n hx hb dX2_priceOfMost_48 rfl (lv_at hl 2 rfl) ?_
      refine lv_iload hx hb dX2_priceOfMost_49 (lv_at hl 0 rfl) ?_
      refine pg_Vi (As := [.int x1, .int v44]) C hH mi_X2_piecesAt vl_X2_116 (q := (RX2, TX2, 8)) (ci := 2) rfl rfl hf (fun _ e1 => (oO_sp e1).1) (fun _ _ e1 => c_X2_piecesAt e1) rfl rfl hl.1 (Nat.le_of_ble_eq_true rfl) ⟨Nat.le_of_ble_eq_true rfl, Nat.le_of_ble_eq_true rfl⟩ ⟨Nat.zero_le _, Nat.zero_le _⟩ dX2_priceOfMost_51 (fun H locs v51 h51 hH hf => ?_)
      refine lv_istore (lv' := [(6, .int v51), (5, .int v44), (0, .ref (gB g + a0)), (1, .int x1), (2, .int x2), (3, .int x3), (4, .int x4)]) hx hb dX2_priceOfMost_54 hl (by decide) rfl (fun ls hl => ?_)
      refine lv_iload hx hb dX2_priceOfMost_56 (lv_at hl 0 rfl) ?_
      refine lv_iload_n hx hb dX2_priceOfMost_58 rfl (lv_at hl 5 rfl) ?_
      refine lv_icmp_gt (tgt := 74) hx hb dX2_priceOfMost_59 (by decide) (fun cn => ?_) (fun cn => ?_)
      · have hf := (if_pos cn).symm.trans hf
        refine lv_iload hx hb dX2_priceOfMost_74 (lv_at hl 0 rfl) ?_
        refine lv_istore_n (lv' := [(3, .int v51), (6, .int v51), (5, .int v44), (0, .ref (gB g + a0)), (1, .int x1), (2, .int x2), (4, .int x4)]) hx hb dX2_priceOfMost_76 rfl hl (by decide) rfl (fun ls hl => ?_)
        refine lv_iload hx hb dX2_priceOfMost_77 (lv_at hl 2 rfl) ?_
        refine lv_istore_n (lv' := [(2, .int v44), (3, .int v51), (6, .int v51), (5, .int v44), (0, .ref (gB g + a0)), (1, .int x1), (4, .int x4)]) hx hb dX2_priceOfMost_79 rfl hl (by decide) rfl (fun ls hl => ?_)
        refine lv_iinc (v := (x4 + 1)) (lv' := [(4, .int (x4 + 1)), (2, .int v44), (3, .int v51), (6, .int v51), (5, .int v44), (0, .ref (gB g + a0)), (1, .int x1)]) hx hb dX2_priceOfMost_80 hl (k := 6) rfl rfl (by decide) rfl (fun ls hl => ?_)
        refine lv_goto (tgt := 7) hx hb dX2_priceOfMost_83 (by decide) ?_
        exact k7 hH hf (lv_sub hl [5, 6, 1, 2, 0] rfl)
      · have hf := (if_neg cn).symm.trans hf
        refine lv_iload hx hb dX2_priceOfMost_62 (lv_at hl 0 rfl) ?_
        refine lv_iload_n hx hb dX2_priceOfMost_64 rfl (lv_at hl 5 rfl) ?_
        refine lv_icmp_ne (tgt := 80) hx hb dX2_priceOfMost_65 (by decide) (fun cn => ?_) (fun cn => ?_)
        · have hf := (if_neg cn).symm.trans hf
          refine lv_iinc (v := (x4 + 1)) (lv' := [(4, .int (x4 + 1)), (6, .int v51), (5, .int v44), (0, .ref (gB g + a0)), (1, .int x1), (2, .int x2), (3, .int x3)]) hx hb dX2_priceOfMost_80 hl (k := 6) rfl rfl (by decide) rfl (fun ls hl => ?_)
          refine lv_goto (tgt := 7) hx hb dX2_priceOfMost_83 (by decide) ?_
          exact k7 hH hf (lv_sub hl [3, 4, 5, 6, 0] rfl)
        · have hf := (if_pos cn).symm.trans hf
          refine lv_iload hx hb dX2_priceOfMost_68 (lv_at hl 1 rfl) ?_
          refine lv_iload_n hx hb dX2_priceOfMost_70 rfl (lv_at hl 4 rfl) ?_
          refine lv_icmp_ge (tgt := 80) hx hb dX2_priceOfMost_71 (by decide) (fun cn => ?_) (fun cn => ?_)
          · have hf := (if_pos cn).symm.trans hf
            refine lv_iinc (v := (x4 + 1)) (lv' := [(4, .int (x4 + 1)), (6, .int v51), (5, .int v44), (0, .ref (gB g + a0)), (1, .int x1), (2, .int x2), (3, .int x3)]) hx hb dX2_priceOfMost_80 hl (k := 6) rfl rfl (by decide) rfl (fun ls hl => ?_)
            refine lv_goto (tgt := 7) hx hb dX2_priceOfMost_83 (by decide) ?_
            exact k7 hH hf (lv_sub hl [3, 4, 5, 6, 0] rfl)
          · have hf := (if_neg cn).symm.trans hf
            refine lv_iload hx hb dX2_priceOfMost_74 (lv_at hl 0 rfl) ?_
            refine lv_istore_n (lv' := [(3, .int v51), (6, .int v51), (5, .int v44), (0, .ref (gB g + a0)), (1, .int x1), (2, .int x2), (4, .int x4)]) hx hb dX2_priceOfMost_76 rfl hl (by decide) rfl (fun ls hl => ?_)
            refine lv_iload hx hb dX2_priceOfMost_77 (lv_at hl 2 rfl) ?_
            refine lv_istore_n (lv' := [(2, .int v44), (3, .int v51), (6, .int v51), (5, .int v44), (0, .ref (gB g + a0)), (1, .int x1), (4, .int x4)]) hx hb dX2_priceOfMost_79 rfl hl (by decide) rfl (fun ls hl => ?_)
            refine lv_iinc (v := (x4 + 1)) (lv' := [(4, .int (x4 + 1)), (2, .int v44), (3, .int v51), (6, .int v51), (5, .int v44), (0, .ref (gB g + a0)), (1, .int x1)]) hx hb dX2_priceOfMost_80 hl (k := 6) rfl rfl (by decide) rfl (fun ls hl => ?_)
            refine lv_goto (tgt := 7) hx hb dX2_priceOfMost_83 (by decide) ?_
            exact k7 hH hf (lv_sub hl [5, 6, 1, 2, 0] rfl)
    · have hf := (if_pos cn).symm.trans hf
      refine lv_goto (tgt := 80) hx hb dX2_priceOfMost_30 (by decide) ?_
      refine lv_iinc (v := (x4 + 1)) (lv' := [(4, .int (x4 + 1)), (0, .ref (gB g + a0)), (1, .int x1), (2, .int x2), (3, .int x3)]) hx hb dX2_priceOfMost_80 hl (k := 4) rfl rfl (by decide) rfl (fun ls hl => ?_)
      refine lv_goto (tgt := 7) hx hb dX2_priceOfMost_83 (by decide) ?_
      exact k7 hH hf (lv_sub hl [1, 2, 3, 4, 0] rfl)
set_option maxHeartbeats 4000000 in
set_option maxRecDepth 100000 in
theorem wX2_priceOfMost_L7 {r : Int32} {h' : PH} (C : CT g RX2 cX2_priceOfMost 7 (Cond.code yX2_priceOfMost cX2_priceOfMost 7 (some .int) :: TB) p s m args meth c) (hr : meth.sig.returnType = some .int) : ∀ (n : Nat) {h : PH} {a0 : Nat} {x1 : Int32} {x2 : Int32} {x3 : Int32} {x4 : Int32} {H : Heap} {locs : List Loc} {ls : Array Slot}, HS g s H locs h → mX2_priceOfMost_L7 n h a0 x1 x2 x3 x4 = some (r, h') → lv_has ls 7 [(0, .ref (gB g + a0)), (1, .int x1), (2, .int x2), (3, .int x3), (4, .int x4)] → W p l e (rmD 1 0 0) s m args below meth c H locs 0 0 (MQ below (QcI g r h') args s 0 0 (aB g)) (F0 m 7 ls []) := by
  intro n
  induction n with
  | zero =>
    intro h a0 x1 x2 x3 x4 H locs ls hH hf hl
    exact absurd hf (by intro z; cases z)
  | succ n ih =>
    intro h a0 x1 x2 x3 x4 H locs ls hH hf hl
    have hf : mX2_priceOfMost_b7 (mX2_priceOfMost_L7 n) h a0 x1 x2 x3 x4 = some (r, h') := hf
    exact wX2_priceOfMost_b7 C hr (fun a b c => ih a b c) hH hf hl
set_option maxHeartbeats 4000000 in
set_option maxRecDepth 100000 in
theorem c_X2_priceOfMost {l : Launch} {g : GD} {h : PH} {a0 : Nat} {x1 : Int32} {r : Int32} {h' : PH} (hf : mX2_priceOfMost h a0 x1 = some (r, h')) : Met l yX2_priceOfMost (Cond.code yX2_priceOfMost cX2_priceOfMost 7 (some .int) :: TB) (rmD 1 0 0) (PcH g [.ref (gB g + a0), .int x1] h) (QcI g r h') 0 0 (aB g) := by
  refine Met.ofW (cc := cX2_priceOfMost) (maxL := 7) (ret := some .int) (by decide) rfl ?_
  intro p e s m args below meth c s₁ B hml hv
  obtain ⟨rfl, hH0, hkk0⟩ := hv
  have C : CT g RX2 cX2_priceOfMost 7 (Cond.code yX2_priceOfMost cX2_priceOfMost 7 (some .int) :: TB) p s m _ meth c := pg_ct (Tw := []) B hml hH0 hkk0
  have hr := B.returns
  have hH : HS g s s.heap [] h := ⟨hH0, va_S.rf⟩
  have hl := lv_entry ([.ref (gB g + a0), .int x1]) (n := 7) (Nat.le_of_ble_eq_true rfl)
  rw [lg_entry_eq]
  generalize (lg_sl ([.ref (gB g + a0), .int x1]) ++ List.replicate (7 - (lg_sl ([.ref (gB g + a0), .int x1])).length) Slot.unset).toArray = ls at hl ⊢
  have hl : lv_has ls 7 [(0, .ref (gB g + a0)), (1, .int x1)] := hl
  show W p l e (rmD 1 0 0) _ _ _ _ _ _ _ _ _ _ _ _
  unfold mX2_priceOfMost at hf
  obtain ⟨hO, hf⟩ := oO_sp hf
  obtain ⟨⟨hx, hb, hml, hown, hts⟩, htb, hlk, hkk, hbs⟩ := id C
  refine lv_iconst (v := (-1 : Int32)) hx hb dX2_priceOfMost_0 (by decide) ?_
  refine lv_istore_n (lv' := [(2, .int (-1 : Int32)), (0, .ref (gB g + a0)), (1, .int x1)]) hx hb dX2_priceOfMost_1 rfl hl (by decide) rfl (fun ls hl => ?_)
  refine lv_iconst (v := (0 : Int32)) hx hb dX2_priceOfMost_2 (by decide) ?_
  refine lv_istore_n (lv' := [(3, .int (0 : Int32)), (2, .int (-1 : Int32)), (0, .ref (gB g + a0)), (1, .int x1)]) hx hb dX2_priceOfMost_3 rfl hl (by decide) rfl (fun ls hl => ?_)
  refine lv_iconst (v := (0 : Int32)) hx hb dX2_priceOfMost_4 (by decide) ?_
  refine lv_istore (lv' := [(4, .int (0 : Int32)), (3, .int (0 : Int32)), (2, .int (-1 : Int32)), (0, .ref (gB g + a0)), (1, .int x1)]) hx hb dX2_priceOfMost_5 hl (by decide) rfl (fun ls hl => ?_)
  exact wX2_priceOfMost_L7 C hr FU hH hf (lv_sub hl [3, 4, 2, 1, 0] rfl)
set_option maxHeartbeats 4000000 in
set_option maxRecDepth 100000 in
theorem wX2_priceResold_b22 {r : Int32} {h' : PH} (C : CT g RX2 cX2_priceResold 3 (Cond.code yX2_priceResold cX2_priceResold 3 (some .int) :: TB) p s m args meth c) (hr : meth.sig.returnType = some .int) {h : PH} {s0 : Nat} {s1 : Int32} {H : Heap} {locs : List Loc} {ls : Array Slot} (hH : HS g s H locs h) (hf : mX2_priceResold_b22 h s0 s1 = some (r, h')) (hl : lv_has ls 3 []) : W p l e (rmD 2 0 0) s m args below meth c H locs 0 0 (MQ below (QcI g r h') args s 0 0 (aB g)) (F0 m 22 ls [.int s1, .ref (gB g + s0)]) := by
  obtain ⟨⟨hx, hb, hml, hown, hts⟩, htb, hlk, hkk, hbs⟩ := id C
  unfold mX2_priceResold_b22 at hf
  refine pg_Vi (As := [.int s1]) C hH mi_X2_priceOfMost vl_X2_107 (q := (RX2, TX2, 8)) (ci := 2) rfl rfl hf (fun _ e1 => (oO_sp e1).1) (fun _ _ e1 => c_X2_priceOfMost e1) rfl rfl hl.1 (Nat.le_of_ble_eq_true rfl) ⟨Nat.le_of_ble_eq_true rfl, Nat.le_of_ble_eq_true rfl⟩ ⟨Nat.zero_le _, Nat.zero_le _⟩ dX2_priceResold_22 (fun H locs v22 h22 hH hf => ?_)
  exact pg_iret C hr hH hf dX2_priceResold_25
set_option maxHeartbeats 4000000 in
set_option maxRecDepth 100000 in
theorem c_X2_priceResold {l : Launch} {g : GD} {h : PH} {a0 : Nat} {x1 : Int32} {r : Int32} {h' : PH} (hf : mX2_priceResold h a0 x1 = some (r, h')) : Met l yX2_priceResold (Cond.code yX2_priceResold cX2_priceResold 3 (some .int) :: TB) (rmD 2 0 0) (PcH g [.ref (gB g + a0), .int x1] h) (QcI g r h') 0 0 (aB g) := by
  refine Met.ofW (cc := cX2_priceResold) (maxL := 3) (ret := some .int) (by decide) rfl ?_
  intro p e s m args below meth c s₁ B hml hv
  obtain ⟨rfl, hH0, hkk0⟩ := hv
  have C : CT g RX2 cX2_priceResold 3 (Cond.code yX2_priceResold cX2_priceResold 3 (some .int) :: TB) p s m _ meth c := pg_ct (Tw := []) B hml hH0 hkk0
  have hr := B.returns
  have hH : HS g s s.heap [] h := ⟨hH0, va_S.rf⟩
  have hl := lv_entry ([.ref (gB g + a0), .int x1]) (n := 3) (Nat.le_of_ble_eq_true rfl)
  rw [lg_entry_eq]
  generalize (lg_sl ([.ref (gB g + a0), .int x1]) ++ List.replicate (3 - (lg_sl ([.ref (gB g + a0), .int x1])).length) Slot.unset).toArray = ls at hl ⊢
  have hl : lv_has ls 3 [(0, .ref (gB g + a0)), (1, .int x1)] := hl
  show W p l e (rmD 2 0 0) _ _ _ _ _ _ _ _ _ _ _ _
  unfold mX2_priceResold at hf
  obtain ⟨hO, hf⟩ := oO_sp hf
  obtain ⟨⟨hx, hb, hml, hown, hts⟩, htb, hlk, hkk, hbs⟩ := id C
  refine lv_aload_n hx hb dX2_priceResold_0 rfl (lv_at hl 0 rfl) ?_
  refine lv_iload_n hx hb dX2_priceResold_1 rfl (lv_at hl 1 rfl) ?_
  refine lv_iconst (v := (0 : Int32)) hx hb dX2_priceResold_2 (by decide) ?_
  refine pg_Vi (As := [.int x1, .int (0 : Int32)]) C hH mi_X2_rowsFor vl_X2_103 (q := (RX2, TX2, 8)) (ci := 2) rfl rfl hf (fun _ e1 => (oO_sp e1).1) (fun _ _ e1 => c_X2_rowsFor e1) rfl rfl hl.1 (Nat.le_of_ble_eq_true rfl) ⟨Nat.le_of_ble_eq_true rfl, Nat.le_of_ble_eq_true rfl⟩ ⟨Nat.zero_le _, Nat.zero_le _⟩ dX2_priceResold_3 (fun H locs v3 h3 hH hf => ?_)
  refine lv_istore_n (lv' := [(2, .int v3), (0, .ref (gB g + a0)), (1, .int x1)]) hx hb dX2_priceResold_6 rfl hl (by decide) rfl (fun ls hl => ?_)
  refine lv_aload_n hx hb dX2_priceResold_7 rfl (lv_at hl 1 rfl) ?_
  refine lv_iload_n hx hb dX2_priceResold_8 rfl (lv_at hl 0 rfl) ?_
  refine lv_if_eq (tgt := 16) hx hb dX2_priceResold_9 (by decide) (fun cn => ?_) (fun cn => ?_)
  · have hf := (if_pos cn).symm.trans hf
    refine lv_aload_n hx hb dX2_priceResold_16 rfl (lv_at hl 1 rfl) ?_
    refine lv_iload_n hx hb dX2_priceResold_17 rfl (lv_at hl 2 rfl) ?_
    refine lv_iconst (v := (1 : Int32)) hx hb dX2_priceResold_18 (by decide) ?_
    refine pg_Vi (As := [.int x1, .int (1 : Int32)]) C hH mi_X2_rowsFor vl_X2_103 (q := (RX2, TX2, 8)) (ci := 2) rfl rfl hf (fun _ e1 => (oO_sp e1).1) (fun _ _ e1 => c_X2_rowsFor e1) rfl rfl hl.1 (Nat.le_of_ble_eq_true rfl) ⟨Nat.le_of_ble_eq_true rfl, Nat.le_of_ble_eq_true rfl⟩ ⟨Nat.zero_le _, Nat.zero_le _⟩ dX2_priceResold_19 (fun H locs v19 h19 hH hf => ?_)
    exact wX2_priceResold_b22 C hr hH hf (lv_sub hl [] rfl)
  · have hf := (if_neg cn).symm.trans hf
    refine lv_iload_n hx hb dX2_priceResold_12 rfl (lv_at hl 0 rfl) ?_
    refine lv_goto (tgt := 22) hx hb dX2_priceResold_13 (by decide) ?_
    exact wX2_priceResold_b22 C hr hH hf (lv_sub hl [] rfl)
set_option maxHeartbeats 4000000 in
set_option maxRecDepth 100000 in
theorem wX2_look_b37 {r37 : PH → Nat → Int32 → Option (PH)} {h' : PH} (C : CT g RX2 cX2_look 4 (Cond.code yX2_look cX2_look 4 (none) :: TB) p s m args meth c) (hr : meth.sig.returnType = none) (k37 : ∀ {h : PH} {a0 : Nat} {x2 : Int32} {H : Heap} {locs : List Loc} {ls : Array Slot}, HS g s H locs h → r37 h a0 x2 = some h' → lv_has ls 4 [(0, .ref (gB g + a0)), (2, .int x2)] → W p l e (rmD 3 0 0) s m args below meth c H locs 0 0 (MQ below (QcV g h') args s 0 0 (aB g)) (F0 m 37 ls [])) {h : PH} {a0 : Nat} {x2 : Int32} {H : Heap} {locs : List Loc} {ls : Array Slot} (hH : HS g s H locs h) (hf : mX2_look_b37 r37 h a0 x2 = some h') (hl : lv_has ls 4 [(0, .ref (gB g + a0)), (2, .int x2)]) : W p l e (rmD 3 0 0) s m args below meth c H locs 0 0 (MQ below (QcV g h') args s 0 0 (aB g)) (F0 m 37 ls []) := by
  obtain ⟨⟨hx, hb, hml, hown, hts⟩, htb, hlk, hkk, hbs⟩ := id C
  unfold mX2_look_b37 at hf
  refine lv_iload_n hx hb dX2_look_37 rfl (lv_at hl 1 rfl) ?_
  refine lv_aload_n hx hb dX2_look_38 rfl (lv_at hl 0 rfl) ?_
  refine pg_gR C hH fl_X2_38 hf dX2_look_39 (fun v39 hf => ?_)
  refine pg_gR C hH fl_X2_45 hf dX2_look_42 (fun v42 hf => ?_)
  refine lv_iconst (v := (3 : Int32)) hx hb dX2_look_45 (by decide) ?_
  refine pg_aI C hH hf dX2_look_46 (fun v46 hf => ?_)
  refine lv_icmp_ge (tgt := 133) hx hb dX2_look_47 (by decide) (fun cn => ?_) (fun cn => ?_)
  · have hf := (if_pos cn).symm.trans hf
    exact pg_vret C hr hH hf dX2_look_133
  · have hf := (if_neg cn).symm.trans hf
    refine lv_aload_n hx hb dX2_look_50 rfl (lv_at hl 0 rfl) ?_
    refine pg_gR C hH fl_X2_38 hf dX2_look_51 (fun v51 hf => ?_)
    refine pg_gR C hH fl_X2_54 hf dX2_look_54 (fun v54 hf => ?_)
    refine lv_iload_n hx hb dX2_look_57 rfl (lv_at hl 1 rfl) ?_
    refine pg_aR C hH (Or.inr rfl) hf dX2_look_58 (fun v58 hf => ?_)
    refine lv_astore_n (lv' := [(3, .ref (gB g + v58)), (0, .ref (gB g + a0)), (2, .int x2)]) hx hb dX2_look_59 rfl hl (by decide) rfl (fun ls hl => ?_)
    refine lv_aload_n hx hb dX2_look_60 rfl (lv_at hl 1 rfl) ?_
    refine pg_gR C hH fl_X2_15 hf dX2_look_61 (fun v61 hf => ?_)
    refine lv_iload_n hx hb dX2_look_64 rfl (lv_at hl 2 rfl) ?_
    refine lv_aload_n hx hb dX2_look_65 rfl (lv_at hl 1 rfl) ?_
    refine lv_aload_n hx hb dX2_look_66 rfl (lv_at hl 0 rfl) ?_
    refine lv_iconst (v := (1 : Int32)) hx hb dX2_look_67 (by decide) ?_
    refine pg_aI C hH hf dX2_look_68 (fun v68 hf => ?_)
    refine lv_aload_n hx hb dX2_look_69 rfl (lv_at hl 0 rfl) ?_
    refine lv_iconst (v := (2 : Int32)) hx hb dX2_look_70 (by decide) ?_
    refine pg_aI C hH hf dX2_look_71 (fun v71 hf => ?_)
    refine pg_Vi (As := [.int v68, .int v71]) C hH mi_X2_areKin vl_X2_57 (q := (RX2, TX2, 8)) (ci := 2) rfl rfl hf (fun _ e1 => (oO_sp e1).1) (fun _ _ e1 => c_X2_areKin e1) rfl rfl hl.1 (Nat.le_of_ble_eq_true rfl) ⟨Nat.le_of_ble_eq_true rfl, Nat.le_of_ble_eq_true rfl⟩ ⟨Nat.zero_le _, Nat.zero_le _⟩ dX2_look_72 (fun H locs v72 h72 hH hf => ?_)
    refine pg_sZ C hH hf dX2_look_75 (fun H locs h75 hH hf => ?_)
    refine lv_aload_n hx hb dX2_look_76 rfl (lv_at hl 1 rfl) ?_
    refine pg_gR C hH fl_X2_23 hf dX2_look_77 (fun v77 hf => ?_)
    refine lv_iload_n hx hb dX2_look_80 rfl (lv_at hl 2 rfl) ?_
    refine lv_aload_n hx hb dX2_look_81 rfl (lv_at hl 1 rfl) ?_
    refine pg_gR C hH fl_X2_38 hf dX2_look_82 (fun v82 hf => ?_)
    refine lv_iload_n hx hb dX2_look_85 rfl (lv_at hl 2 rfl) ?_
    refine pg_Vi (As := [.int x2]) C hH mi_X8_levelOf vl_X2_61 (q := (RX8, TX8, 8)) (ci := 8) rfl rfl hf (fun _ e1 => (oO_sp e1).1) (fun _ _ e1 => c_X8_levelOf e1) rfl rfl hl.1 (Nat.le_of_ble_eq_true rfl) ⟨Nat.le_of_ble_eq_true rfl, Nat.le_of_ble_eq_true rfl⟩ ⟨Nat.zero_le _, Nat.zero_le _⟩ dX2_look_86 (fun H locs v86 h86 hH hf => ?_)
    refine pg_sI C hH hf dX2_look_89 (fun H locs h89 hH hf => ?_)
    refine lv_aload_n hx hb dX2_look_90 rfl (lv_at hl 1 rfl) ?_
    refine pg_gR C hH fl_X2_31 hf dX2_look_91 (fun v91 hf => ?_)
    refine lv_iload_n hx hb dX2_look_94 rfl (lv_at hl 2 rfl) ?_
    refine lv_aload_n hx hb dX2_look_95 rfl (lv_at hl 1 rfl) ?_
    refine lv_iload_n hx hb dX2_look_96 rfl (lv_at hl 2 rfl) ?_
    refine lv_aload_n hx hb dX2_look_97 rfl (lv_at hl 0 rfl) ?_
    refine lv_iconst (v := (4 : Int32)) hx hb dX2_look_98 (by decide) ?_
    refine pg_aI C hH hf dX2_look_99 (fun v99 hf => ?_)
    refine pg_Vl (As := [.int x2, .int v99]) C hH mi_X2_priced vl_X2_65 (q := (RX2, TX2, 8)) (ci := 2) rfl rfl hf (fun _ e1 => (oO_sp e1).1) (fun _ _ e1 => c_X2_priced e1) rfl rfl hl.1 (Nat.le_of_ble_eq_true rfl) ⟨Nat.le_of_ble_eq_true rfl, Nat.le_of_ble_eq_true rfl⟩ ⟨Nat.zero_le _, Nat.zero_le _⟩ dX2_look_100 (fun H locs v100 h100 hH hf => ?_)
    refine lv_aload_n hx hb dX2_look_103 rfl (lv_at hl 0 rfl) ?_
    refine lv_bipush (v := (8 : Int32)) hx hb dX2_look_104 (by decide) ?_
    refine pg_aI C hH hf dX2_look_106 (fun v106 hf => ?_)
    refine lv_i2l (v := (Int32.toInt64 v106)) hx hb dX2_look_107 rfl ?_
    refine lv_ladd hx hb dX2_look_108 ?_
    refine lv_aload_n hx hb dX2_look_109 rfl (lv_at hl 1 rfl) ?_
    refine lv_iload_n hx hb dX2_look_110 rfl (lv_at hl 2 rfl) ?_
    refine pg_Vl (As := [.int x2]) C hH mi_X2_broughtAlong vl_X2_69 (q := (RX2, TX2, 8)) (ci := 2) rfl rfl hf (fun _ e1 => (oO_sp e1).1) (fun _ _ e1 => c_X2_broughtAlong e1) rfl rfl hl.1 (Nat.le_of_ble_eq_true rfl) ⟨Nat.le_of_ble_eq_true rfl, Nat.le_of_ble_eq_true rfl⟩ ⟨Nat.zero_le _, Nat.zero_le _⟩ dX2_look_111 (fun H locs v111 h111 hH hf => ?_)
    refine lv_ladd hx hb dX2_look_114 ?_
    refine pg_sL C hH hf dX2_look_115 (fun H locs h115 hH hf => ?_)
    refine lv_aload_n hx hb dX2_look_116 rfl (lv_at hl 1 rfl) ?_
    refine pg_gR C hH fl_X2_35 hf dX2_look_117 (fun v117 hf => ?_)
    refine lv_iload_n hx hb dX2_look_120 rfl (lv_at hl 2 rfl) ?_
    refine lv_aload_n hx hb dX2_look_121 rfl (lv_at hl 1 rfl) ?_
    refine lv_iload_n hx hb dX2_look_122 rfl (lv_at hl 2 rfl) ?_
    refine pg_Vi (As := [.int x2]) C hH mi_X2_priceResold vl_X2_73 (q := (RX2, TX2, 8)) (ci := 2) rfl rfl hf (fun _ e1 => (oO_sp e1).1) (fun _ _ e1 => c_X2_priceResold e1) rfl rfl hl.1 (Nat.le_of_ble_eq_true rfl) ⟨Nat.le_of_ble_eq_true rfl, Nat.le_of_ble_eq_true rfl⟩ ⟨Nat.zero_le _, Nat.zero_le _⟩ dX2_look_123 (fun H locs v123 h123 hH hf => ?_)
    refine pg_sI C hH hf dX2_look_126 (fun H locs h126 hH hf => ?_)
    refine lv_iinc (v := (x2 + 1)) (lv' := [(2, .int (x2 + 1)), (3, .ref (gB g + v58)), (0, .ref (gB g + a0))]) hx hb dX2_look_127 hl (k := 2) rfl rfl (by decide) rfl (fun ls hl => ?_)
    refine lv_goto (tgt := 37) hx hb dX2_look_130 (by decide) ?_
    exact k37 hH hf (lv_sub hl [2, 0] rfl)
set_option maxHeartbeats 4000000 in
set_option maxRecDepth 100000 in
theorem wX2_look_L37 {h' : PH} (C : CT g RX2 cX2_look 4 (Cond.code yX2_look cX2_look 4 (none) :: TB) p s m args meth c) (hr : meth.sig.returnType = none) : ∀ (n : Nat) {h : PH} {a0 : Nat} {x2 : Int32} {H : Heap} {locs : List Loc} {ls : Array Slot}, HS g s H locs h → mX2_look_L37 n h a0 x2 = some h' → lv_has ls 4 [(0, .ref (gB g + a0)), (2, .int x2)] → W p l e (rmD 3 0 0) s m args below meth c H locs 0 0 (MQ below (QcV g h') args s 0 0 (aB g)) (F0 m 37 ls []) := by
  intro n
  induction n with
  | zero =>
    intro h a0 x2 H locs ls hH hf hl
    exact absurd hf (by intro z; cases z)
  | succ n ih =>
    intro h a0 x2 H locs ls hH hf hl
    have hf : mX2_look_b37 (mX2_look_L37 n) h a0 x2 = some h' := hf
    exact wX2_look_b37 C hr (fun a b c => ih a b c) hH hf hl
set_option maxHeartbeats 4000000 in
set_option maxRecDepth 100000 in
theorem wX2_look_b11 {r11 : PH → Nat → Int32 → Option (PH)} {h' : PH} (C : CT g RX2 cX2_look 4 (Cond.code yX2_look cX2_look 4 (none) :: TB) p s m args meth c) (hr : meth.sig.returnType = none) (k11 : ∀ {h : PH} {a0 : Nat} {x2 : Int32} {H : Heap} {locs : List Loc} {ls : Array Slot}, HS g s H locs h → r11 h a0 x2 = some h' → lv_has ls 4 [(0, .ref (gB g + a0)), (2, .int x2)] → W p l e (rmD 3 0 0) s m args below meth c H locs 0 0 (MQ below (QcV g h') args s 0 0 (aB g)) (F0 m 11 ls [])) {h : PH} {a0 : Nat} {x2 : Int32} {H : Heap} {locs : List Loc} {ls : Array Slot} (hH : HS g s H locs h) (hf : mX2_look_b11 r11 h a0 x2 = some h') (hl : lv_has ls 4 [(0, .ref (gB g + a0)), (2, .int x2)]) : W p l e (rmD 3 0 0) s m args below meth c H locs 0 0 (MQ below (QcV g h') args s 0 0 (aB g)) (F0 m 11 ls []) := by
  obtain ⟨⟨hx, hb, hml, hown, hts⟩, htb, hlk, hkk, hbs⟩ := id C
  unfold mX2_look_b11 at hf
  refine lv_iload_n hx hb dX2_look_11 rfl (lv_at hl 1 rfl) ?_
  refine lv_aload_n hx hb dX2_look_12 rfl (lv_at hl 0 rfl) ?_
  refine pg_gR C hH fl_X2_38 hf dX2_look_13 (fun v13 hf => ?_)
  refine pg_gR C hH fl_X2_45 hf dX2_look_16 (fun v16 hf => ?_)
  refine lv_iconst (v := (2 : Int32)) hx hb dX2_look_19 (by decide) ?_
  refine pg_aI C hH hf dX2_look_20 (fun v20 hf => ?_)
  refine lv_icmp_ge (tgt := 35) hx hb dX2_look_21 (by decide) (fun cn => ?_) (fun cn => ?_)
  · have hf := (if_pos cn).symm.trans hf
    refine lv_iconst (v := (0 : Int32)) hx hb dX2_look_35 (by decide) ?_
    refine lv_istore_n (lv' := [(2, .int (0 : Int32)), (0, .ref (gB g + a0))]) hx hb dX2_look_36 rfl hl (by decide) rfl (fun ls hl => ?_)
    exact wX2_look_L37 C hr FU hH hf (lv_sub hl [1, 0] rfl)
  · have hf := (if_neg cn).symm.trans hf
    refine lv_aload_n hx hb dX2_look_24 rfl (lv_at hl 0 rfl) ?_
    refine lv_iload_n hx hb dX2_look_25 rfl (lv_at hl 1 rfl) ?_
    refine pg_Vv (As := [.int x2]) C hH mi_X2_shareOut vl_X2_50 (q := (RX2, TX2, 8)) (ci := 2) rfl rfl hf (fun _ e1 => (oO_sp e1).1) (fun _ e1 => c_X2_shareOut e1) rfl rfl hl.1 (Nat.le_of_ble_eq_true rfl) ⟨Nat.le_of_ble_eq_true rfl, Nat.le_of_ble_eq_true rfl⟩ ⟨Nat.zero_le _, Nat.zero_le _⟩ dX2_look_26 (fun H locs h26 hH hf => ?_)
    refine lv_iinc (v := (x2 + 1)) (lv' := [(2, .int (x2 + 1)), (0, .ref (gB g + a0))]) hx hb dX2_look_29 hl (k := 1) rfl rfl (by decide) rfl (fun ls hl => ?_)
    refine lv_goto (tgt := 11) hx hb dX2_look_32 (by decide) ?_
    exact k11 hH hf (lv_sub hl [1, 0] rfl)
set_option maxHeartbeats 4000000 in
set_option maxRecDepth 100000 in
theorem wX2_look_L11 {h' : PH} (C : CT g RX2 cX2_look 4 (Cond.code yX2_look cX2_look 4 (none) :: TB) p s m args meth c) (hr : meth.sig.returnType = none) : ∀ (n : Nat) {h : PH} {a0 : Nat} {x2 : Int32} {H : Heap} {locs : List Loc} {ls : Array Slot}, HS g s H locs h → mX2_look_L11 n h a0 x2 = some h' → lv_has ls 4 [(0, .ref (gB g + a0)), (2, .int x2)] → W p l e (rmD 3 0 0) s m args below meth c H locs 0 0 (MQ below (QcV g h') args s 0 0 (aB g)) (F0 m 11 ls []) := by
  intro n
  induction n with
  | zero =>
    intro h a0 x2 H locs ls hH hf hl
    exact absurd hf (by intro z; cases z)
  | succ n ih =>
    intro h a0 x2 H locs ls hH hf hl
    have hf : mX2_look_b11 (mX2_look_L11 n) h a0 x2 = some h' := hf
    exact wX2_look_b11 C hr (fun a b c => ih a b c) hH hf hl
set_option maxHeartbeats 4000000 in
set_option maxRecDepth 100000 in
theorem c_X2_look {l : Launch} {g : GD} {h : PH} {a0 : Nat} {x1 : Int32} {h' : PH} (hf : mX2_look h a0 x1 = some h') : Met l yX2_look (Cond.code yX2_look cX2_look 4 (none) :: TB) (rmD 3 0 0) (PcH g [.ref (gB g + a0), .int x1] h) (QcV g h') 0 0 (aB g) := by
  refine Met.ofW (cc := cX2_look) (maxL := 4) (ret := none) (by decide) rfl ?_
  intro p e s m args below meth c s₁ B hml hv
  obtain ⟨rfl, hH0, hkk0⟩ := hv
  have C : CT g RX2 cX2_look 4 (Cond.code yX2_look cX2_look 4 (none) :: TB) p s m _ meth c := pg_ct (Tw := []) B hml hH0 hkk0
  have hr := B.returns
  have hH : HS g s s.heap [] h := ⟨hH0, va_S.rf⟩
  have hl := lv_entry ([.ref (gB g + a0), .int x1]) (n := 4) (Nat.le_of_ble_eq_true rfl)
  rw [lg_entry_eq]
  generalize (lg_sl ([.ref (gB g + a0), .int x1]) ++ List.replicate (4 - (lg_sl ([.ref (gB g + a0), .int x1])).length) Slot.unset).toArray = ls at hl ⊢
  have hl : lv_has ls 4 [(0, .ref (gB g + a0)), (1, .int x1)] := hl
  show W p l e (rmD 3 0 0) _ _ _ _ _ _ _ _ _ _ _ _
  unfold mX2_look at hf
  obtain ⟨hO, hf⟩ := oO_sp hf
  obtain ⟨⟨hx, hb, hml, hown, hts⟩, htb, hlk, hkk, hbs⟩ := id C
  refine lv_aload_n hx hb dX2_look_0 rfl (lv_at hl 0 rfl) ?_
  refine lv_iload_n hx hb dX2_look_1 rfl (lv_at hl 1 rfl) ?_
  refine pg_pI C hH fl_X2_19 fm_2_3 hf dX2_look_2 (fun H locs h2 hH hf => ?_)
  refine lv_aload_n hx hb dX2_look_5 rfl (lv_at hl 0 rfl) ?_
  refine pg_Vv (As := []) C hH mi_X2_closeKin vl_X2_42 (q := (RX2, TX2, 8)) (ci := 2) rfl rfl hf (fun _ e1 => (oO_sp e1).1) (fun _ e1 => c_X2_closeKin e1) rfl rfl hl.1 (Nat.le_of_ble_eq_true rfl) ⟨Nat.le_of_ble_eq_true rfl, Nat.le_of_ble_eq_true rfl⟩ ⟨Nat.zero_le _, Nat.zero_le _⟩ dX2_look_6 (fun H locs h6 hH hf => ?_)
  refine lv_iconst (v := (0 : Int32)) hx hb dX2_look_9 (by decide) ?_
  refine lv_istore_n (lv' := [(2, .int (0 : Int32)), (0, .ref (gB g + a0)), (1, .int x1)]) hx hb dX2_look_10 rfl hl (by decide) rfl (fun ls hl => ?_)
  exact wX2_look_L11 C hr FU hH hf (lv_sub hl [1, 0] rfl)
set_option maxHeartbeats 4000000 in
set_option maxRecDepth 100000 in
theorem c_X2_isAmongKin {l : Launch} {g : GD} {h : PH} {a0 : Nat} {x1 : Int32} {r : Int32} {h' : PH} (hf : mX2_isAmongKin h a0 x1 = some (r, h')) : Met l yX2_isAmongKin (Cond.code yX2_isAmongKin cX2_isAmongKin 2 (some .boolean) :: TB) (rmD 0 0 0) (PcH g [.ref (gB g + a0), .int x1] h) (QcI g r h') 0 0 (aB g) := by
  refine Met.ofW (cc := cX2_isAmongKin) (maxL := 2) (ret := some .boolean) (by decide) rfl ?_
  intro p e s m args below meth c s₁ B hml hv
  obtain ⟨rfl, hH0, hkk0⟩ := hv
  have C : CT g RX2 cX2_isAmongKin 2 (Cond.code yX2_isAmongKin cX2_isAmongKin 2 (some .boolean) :: TB) p s m _ meth c := pg_ct (Tw := []) B hml hH0 hkk0
  have hr := B.returns
  have hH : HS g s s.heap [] h := ⟨hH0, va_S.rf⟩
  have hl := lv_entry ([.ref (gB g + a0), .int x1]) (n := 2) (Nat.le_of_ble_eq_true rfl)
  rw [lg_entry_eq]
  generalize (lg_sl ([.ref (gB g + a0), .int x1]) ++ List.replicate (2 - (lg_sl ([.ref (gB g + a0), .int x1])).length) Slot.unset).toArray = ls at hl ⊢
  have hl : lv_has ls 2 [(0, .ref (gB g + a0)), (1, .int x1)] := hl
  show W p l e (rmD 0 0 0) _ _ _ _ _ _ _ _ _ _ _ _
  unfold mX2_isAmongKin at hf
  obtain ⟨hO, hf⟩ := oO_sp hf
  obtain ⟨⟨hx, hb, hml, hown, hts⟩, htb, hlk, hkk, hbs⟩ := id C
  refine lv_aload_n hx hb dX2_isAmongKin_0 rfl (lv_at hl 0 rfl) ?_
  refine pg_gR C hH fl_X2_15 hf dX2_isAmongKin_1 (fun v1 hf => ?_)
  refine lv_iload_n hx hb dX2_isAmongKin_4 rfl (lv_at hl 1 rfl) ?_
  refine pg_aZ C hH hf dX2_isAmongKin_5 (fun v5 hf => ?_)
  exact pg_zret C hr hH hf dX2_isAmongKin_6
set_option maxHeartbeats 4000000 in
set_option maxRecDepth 100000 in
theorem c_X2_isAnother {l : Launch} {g : GD} {h : PH} {a0 : Nat} {x1 : Int32} {x2 : Int32} {r : Int32} {h' : PH} (hf : mX2_isAnother h a0 x1 x2 = some (r, h')) : Met l yX2_isAnother (Cond.code yX2_isAnother cX2_isAnother 3 (some .boolean) :: TB) (rmD 0 0 0) (PcH g [.ref (gB g + a0), .int x1, .int x2] h) (QcI g r h') 0 0 (aB g) := by
  refine Met.ofW (cc := cX2_isAnother) (maxL := 3) (ret := some .boolean) (by decide) rfl ?_
  intro p e s m args below meth c s₁ B hml hv
  obtain ⟨rfl, hH0, hkk0⟩ := hv
  have C : CT g RX2 cX2_isAnother 3 (Cond.code yX2_isAnother cX2_isAnother 3 (some .boolean) :: TB) p s m _ meth c := pg_ct (Tw := []) B hml hH0 hkk0
  have hr := B.returns
  have hH : HS g s s.heap [] h := ⟨hH0, va_S.rf⟩
  have hl := lv_entry ([.ref (gB g + a0), .int x1, .int x2]) (n := 3) (Nat.le_of_ble_eq_true rfl)
  rw [lg_entry_eq]
  generalize (lg_sl ([.ref (gB g + a0), .int x1, .int x2]) ++ List.replicate (3 - (lg_sl ([.ref (gB g + a0), .int x1, .int x2])).length) Slot.unset).toArray = ls at hl ⊢
  have hl : lv_has ls 3 [(0, .ref (gB g + a0)), (1, .int x1), (2, .int x2)] := hl
  show W p l e (rmD 0 0 0) _ _ _ _ _ _ _ _ _ _ _ _
  unfold mX2_isAnother at hf
  obtain ⟨hO, hf⟩ := oO_sp hf
  obtain ⟨⟨hx, hb, hml, hown, hts⟩, htb, hlk, hkk, hbs⟩ := id C
  refine lv_iload_n hx hb dX2_isAnother_0 rfl (lv_at hl 2 rfl) ?_
  refine lv_iload_n hx hb dX2_isAnother_1 rfl (lv_at hl 1 rfl) ?_
  refine lv_icmp_eq (tgt := 17) hx hb dX2_isAnother_2 (by decide) (fun cn => ?_) (fun cn => ?_)
  · have hf := (if_pos cn).symm.trans hf
    refine lv_iconst (v := (0 : Int32)) hx hb dX2_isAnother_17 (by decide) ?_
    exact pg_zret C hr hH hf dX2_isAnother_18
  · have hf := (if_neg cn).symm.trans hf
    refine lv_iload_n hx hb dX2_isAnother_5 rfl (lv_at hl 2 rfl) ?_
    refine lv_aload_n hx hb dX2_isAnother_6 rfl (lv_at hl 0 rfl) ?_
    refine pg_gI C hH fl_X2_19 hf dX2_isAnother_7 (fun v7 hf => ?_)
    refine lv_icmp_eq (tgt := 17) hx hb dX2_isAnother_10 (by decide) (fun cn => ?_) (fun cn => ?_)
    · have hf := (if_pos cn).symm.trans hf
      refine lv_iconst (v := (0 : Int32)) hx hb dX2_isAnother_17 (by decide) ?_
      exact pg_zret C hr hH hf dX2_isAnother_18
    · have hf := (if_neg cn).symm.trans hf
      refine lv_iconst (v := (1 : Int32)) hx hb dX2_isAnother_13 (by decide) ?_
      refine lv_goto (tgt := 18) hx hb dX2_isAnother_14 (by decide) ?_
      exact pg_zret C hr hH hf dX2_isAnother_18
set_option maxHeartbeats 4000000 in
set_option maxRecDepth 100000 in
theorem c_X2_isInWindow {l : Launch} {g : GD} {h : PH} {a0 : Nat} {x1 : Int32} {x2 : Int32} {r : Int32} {h' : PH} (hf : mX2_isInWindow h a0 x1 x2 = some (r, h')) : Met l yX2_isInWindow (Cond.code yX2_isInWindow cX2_isInWindow 4 (some .boolean) :: TB) (rmD 1 0 0) (PcH g [.ref (gB g + a0), .int x1, .int x2] h) (QcI g r h') 0 0 (aB g) := by
  refine Met.ofW (cc := cX2_isInWindow) (maxL := 4) (ret := some .boolean) (by decide) rfl ?_
  intro p e s m args below meth c s₁ B hml hv
  obtain ⟨rfl, hH0, hkk0⟩ := hv
  have C : CT g RX2 cX2_isInWindow 4 (Cond.code yX2_isInWindow cX2_isInWindow 4 (some .boolean) :: TB) p s m _ meth c := pg_ct (Tw := []) B hml hH0 hkk0
  have hr := B.returns
  have hH : HS g s s.heap [] h := ⟨hH0, va_S.rf⟩
  have hl := lv_entry ([.ref (gB g + a0), .int x1, .int x2]) (n := 4) (Nat.le_of_ble_eq_true rfl)
  rw [lg_entry_eq]
  generalize (lg_sl ([.ref (gB g + a0), .int x1, .int x2]) ++ List.replicate (4 - (lg_sl ([.ref (gB g + a0), .int x1, .int x2])).length) Slot.unset).toArray = ls at hl ⊢
  have hl : lv_has ls 4 [(0, .ref (gB g + a0)), (1, .int x1), (2, .int x2)] := hl
  show W p l e (rmD 1 0 0) _ _ _ _ _ _ _ _ _ _ _ _
  unfold mX2_isInWindow at hf
  obtain ⟨hO, hf⟩ := oO_sp hf
  obtain ⟨⟨hx, hb, hml, hown, hts⟩, htb, hlk, hkk, hbs⟩ := id C
  refine lv_aload_n hx hb dX2_isInWindow_0 rfl (lv_at hl 0 rfl) ?_
  refine pg_gR C hH fl_X2_38 hf dX2_isInWindow_1 (fun v1 hf => ?_)
  refine pg_gR C hH fl_X2_54 hf dX2_isInWindow_4 (fun v4 hf => ?_)
  refine lv_iload_n hx hb dX2_isInWindow_7 rfl (lv_at hl 1 rfl) ?_
  refine pg_aR C hH (Or.inr rfl) hf dX2_isInWindow_8 (fun v8 hf => ?_)
  refine lv_iconst (v := (5 : Int32)) hx hb dX2_isInWindow_9 (by decide) ?_
  refine pg_aI C hH hf dX2_isInWindow_10 (fun v10 hf => ?_)
  refine lv_aload_n hx hb dX2_isInWindow_11 rfl (lv_at hl 0 rfl) ?_
  refine pg_gR C hH fl_X2_38 hf dX2_isInWindow_12 (fun v12 hf => ?_)
  refine pg_gR C hH fl_X2_54 hf dX2_isInWindow_15 (fun v15 hf => ?_)
  refine lv_iload_n hx hb dX2_isInWindow_18 rfl (lv_at hl 2 rfl) ?_
  refine pg_aR C hH (Or.inr rfl) hf dX2_isInWindow_19 (fun v19 hf => ?_)
  refine lv_iconst (v := (5 : Int32)) hx hb dX2_isInWindow_20 (by decide) ?_
  refine pg_aI C hH hf dX2_isInWindow_21 (fun v21 hf => ?_)
  refine lv_isub hx hb dX2_isInWindow_22 ?_
  refine pg_mabs C jm_X2_124 hl.1 (Nat.le_of_ble_eq_true rfl) (Nat.le_of_ble_eq_true rfl) ⟨Nat.zero_le _, Nat.zero_le _⟩ dX2_isInWindow_23 ?_
  refine lv_istore_n (lv' := [(3, .int (mabs (v10 - v21))), (0, .ref (gB g + a0)), (1, .int x1), (2, .int x2)]) hx hb dX2_isInWindow_26 rfl hl (by decide) rfl (fun ls hl => ?_)
  refine lv_iload_n hx hb dX2_isInWindow_27 rfl (lv_at hl 0 rfl) ?_
  refine lv_aload_n hx hb dX2_isInWindow_28 rfl (lv_at hl 1 rfl) ?_
  refine pg_gR C hH fl_X2_38 hf dX2_isInWindow_29 (fun v29 hf => ?_)
  refine pg_gR C hH fl_X2_45 hf dX2_isInWindow_32 (fun v32 hf => ?_)
  refine lv_bipush (v := (7 : Int32)) hx hb dX2_isInWindow_35 (by decide) ?_
  refine pg_aI C hH hf dX2_isInWindow_37 (fun v37 hf => ?_)
  refine lv_icmp_gt (tgt := 45) hx hb dX2_isInWindow_38 (by decide) (fun cn => ?_) (fun cn => ?_)
  · have hf := (if_pos cn).symm.trans hf
    refine lv_iconst (v := (0 : Int32)) hx hb dX2_isInWindow_45 (by decide) ?_
    exact pg_zret C hr hH hf dX2_isInWindow_46
  · have hf := (if_neg cn).symm.trans hf
    refine lv_iconst (v := (1 : Int32)) hx hb dX2_isInWindow_41 (by decide) ?_
    refine lv_goto (tgt := 46) hx hb dX2_isInWindow_42 (by decide) ?_
    exact pg_zret C hr hH hf dX2_isInWindow_46
set_option maxHeartbeats 4000000 in
set_option maxRecDepth 100000 in
theorem wX1_isTestFor_b82 {r : Int32} {h' : PH} (C : CT g RX1 cX1_isTestFor 5 (Cond.code yX1_isTestFor cX1_isTestFor 5 (some .boolean) :: TB) p s m args meth c) (hr : meth.sig.returnType = some .boolean) {h : PH} {a0 : Nat} {x1 : Int32} {x2 : Int32} {H : Heap} {locs : List Loc} {ls : Array Slot} (hH : HS g s H locs h) (hf : mX1_isTestFor_b82 h a0 x1 x2 = some (r, h')) (hl : lv_has ls 5 [(0, .ref (gB g + a0)), (1, .int x1), (2, .int x2)]) : W p l e (rmD 2 0 0) s m args below meth c H locs 0 0 (MQ below (QcI g r h') args s 0 0 (aB g)) (F0 m 82 ls []) := by
  obtain ⟨⟨hx, hb, hml, hown, hts⟩, htb, hlk, hkk, hbs⟩ := id C
  unfold mX1_isTestFor_b82 at hf
  refine lv_aload_n hx hb dX1_isTestFor_82 rfl (lv_at hl 0 rfl) ?_
  refine pg_gR C hH fl_X1_26 hf dX1_isTestFor_83 (fun v83 hf => ?_)
  refine lv_iload_n hx hb dX1_isTestFor_86 rfl (lv_at hl 1 rfl) ?_
  refine lv_iload_n hx hb dX1_isTestFor_87 rfl (lv_at hl 2 rfl) ?_
  refine pg_Vi (As := [.int x1, .int x2]) C hH mi_X2_isInWindow vl_X1_88 (q := (RX2, TX2, 8)) (ci := 2) rfl rfl hf (fun _ e1 => (oO_sp e1).1) (fun _ _ e1 => c_X2_isInWindow e1) rfl rfl hl.1 (Nat.le_of_ble_eq_true rfl) ⟨Nat.le_of_ble_eq_true rfl, Nat.le_of_ble_eq_true rfl⟩ ⟨Nat.zero_le _, Nat.zero_le _⟩ dX1_isTestFor_88 (fun H locs v88 h88 hH hf => ?_)
  refine lv_if_eq (tgt := 98) hx hb dX1_isTestFor_91 (by decide) (fun cn => ?_) (fun cn => ?_)
  · have hf := (if_pos cn).symm.trans hf
    refine lv_iconst (v := (0 : Int32)) hx hb dX1_isTestFor_98 (by decide) ?_
    exact pg_zret C hr hH hf dX1_isTestFor_99
  · have hf := (if_neg cn).symm.trans hf
    refine lv_iconst (v := (1 : Int32)) hx hb dX1_isTestFor_94 (by decide) ?_
    refine lv_goto (tgt := 99) hx hb dX1_isTestFor_95 (by decide) ?_
    exact pg_zret C hr hH hf dX1_isTestFor_99
set_option maxHeartbeats 4000000 in
set_option maxRecDepth 100000 in
theorem c_X1_isTestFor {l : Launch} {g : GD} {h : PH} {a0 : Nat} {x1 : Int32} {x2 : Int32} {r : Int32} {h' : PH} (hf : mX1_isTestFor h a0 x1 x2 = some (r, h')) : Met l yX1_isTestFor (Cond.code yX1_isTestFor cX1_isTestFor 5 (some .boolean) :: TB) (rmD 2 0 0) (PcH g [.ref (gB g + a0), .int x1, .int x2] h) (QcI g r h') 0 0 (aB g) := by
  refine Met.ofW (cc := cX1_isTestFor) (maxL := 5) (ret := some .boolean) (by decide) rfl ?_
  intro p e s m args below meth c s₁ B hml hv
  obtain ⟨rfl, hH0, hkk0⟩ := hv
  have C : CT g RX1 cX1_isTestFor 5 (Cond.code yX1_isTestFor cX1_isTestFor 5 (some .boolean) :: TB) p s m _ meth c := pg_ct (Tw := []) B hml hH0 hkk0
  have hr := B.returns
  have hH : HS g s s.heap [] h := ⟨hH0, va_S.rf⟩
  have hl := lv_entry ([.ref (gB g + a0), .int x1, .int x2]) (n := 5) (Nat.le_of_ble_eq_true rfl)
  rw [lg_entry_eq]
  generalize (lg_sl ([.ref (gB g + a0), .int x1, .int x2]) ++ List.replicate (5 - (lg_sl ([.ref (gB g + a0), .int x1, .int x2])).length) Slot.unset).toArray = ls at hl ⊢
  have hl : lv_has ls 5 [(0, .ref (gB g + a0)), (1, .int x1), (2, .int x2)] := hl
  show W p l e (rmD 2 0 0) _ _ _ _ _ _ _ _ _ _ _ _
  unfold mX1_isTestFor at hf
  obtain ⟨hO, hf⟩ := oO_sp hf
  obtain ⟨⟨hx, hb, hml, hown, hts⟩, htb, hlk, hkk, hbs⟩ := id C
  refine lv_aload_n hx hb dX1_isTestFor_0 rfl (lv_at hl 0 rfl) ?_
  refine pg_gR C hH fl_X1_22 hf dX1_isTestFor_1 (fun v1 hf => ?_)
  refine pg_gR C hH fl_X1_45 hf dX1_isTestFor_4 (fun v4 hf => ?_)
  refine lv_iload_n hx hb dX1_isTestFor_7 rfl (lv_at hl 1 rfl) ?_
  refine pg_aR C hH (Or.inr rfl) hf dX1_isTestFor_8 (fun v8 hf => ?_)
  refine lv_iconst (v := (0 : Int32)) hx hb dX1_isTestFor_9 (by decide) ?_
  refine pg_aI C hH hf dX1_isTestFor_10 (fun v10 hf => ?_)
  refine lv_istore_n (lv' := [(3, .int v10), (0, .ref (gB g + a0)), (1, .int x1), (2, .int x2)]) hx hb dX1_isTestFor_11 rfl hl (by decide) rfl (fun ls hl => ?_)
  refine lv_aload_n hx hb dX1_isTestFor_12 rfl (lv_at hl 1 rfl) ?_
  refine pg_gR C hH fl_X1_22 hf dX1_isTestFor_13 (fun v13 hf => ?_)
  refine pg_gR C hH fl_X1_45 hf dX1_isTestFor_16 (fun v16 hf => ?_)
  refine lv_iload_n hx hb dX1_isTestFor_19 rfl (lv_at hl 3 rfl) ?_
  refine pg_aR C hH (Or.inr rfl) hf dX1_isTestFor_20 (fun v20 hf => ?_)
  refine lv_iconst (v := (0 : Int32)) hx hb dX1_isTestFor_21 (by decide) ?_
  refine pg_aI C hH hf dX1_isTestFor_22 (fun v22 hf => ?_)
  refine lv_istore (lv' := [(4, .int v22), (3, .int v10), (0, .ref (gB g + a0)), (1, .int x1), (2, .int x2)]) hx hb dX1_isTestFor_23 hl (by decide) rfl (fun ls hl => ?_)
  refine lv_aload_n hx hb dX1_isTestFor_25 rfl (lv_at hl 2 rfl) ?_
  refine pg_gR C hH fl_X1_26 hf dX1_isTestFor_26 (fun v26 hf => ?_)
  refine lv_iload_n hx hb dX1_isTestFor_29 rfl (lv_at hl 3 rfl) ?_
  refine lv_iload_n hx hb dX1_isTestFor_30 rfl (lv_at hl 4 rfl) ?_
  refine pg_Vi (As := [.int x1, .int x2]) C hH mi_X2_isAnother vl_X1_82 (q := (RX2, TX2, 8)) (ci := 2) rfl rfl hf (fun _ e1 => (oO_sp e1).1) (fun _ _ e1 => c_X2_isAnother e1) rfl rfl hl.1 (Nat.le_of_ble_eq_true rfl) ⟨Nat.le_of_ble_eq_true rfl, Nat.le_of_ble_eq_true rfl⟩ ⟨Nat.zero_le _, Nat.zero_le _⟩ dX1_isTestFor_31 (fun H locs v31 h31 hH hf => ?_)
  refine lv_if_eq (tgt := 98) hx hb dX1_isTestFor_34 (by decide) (fun cn => ?_) (fun cn => ?_)
  · have hf := (if_pos cn).symm.trans hf
    refine lv_iconst (v := (0 : Int32)) hx hb dX1_isTestFor_98 (by decide) ?_
    exact pg_zret C hr hH hf dX1_isTestFor_99
  · have hf := (if_neg cn).symm.trans hf
    refine lv_aload_n hx hb dX1_isTestFor_37 rfl (lv_at hl 2 rfl) ?_
    refine pg_gR C hH fl_X1_22 hf dX1_isTestFor_38 (fun v38 hf => ?_)
    refine pg_gR C hH fl_X1_45 hf dX1_isTestFor_41 (fun v41 hf => ?_)
    refine lv_iload_n hx hb dX1_isTestFor_44 rfl (lv_at hl 4 rfl) ?_
    refine pg_aR C hH (Or.inr rfl) hf dX1_isTestFor_45 (fun v45 hf => ?_)
    refine lv_bipush (v := (6 : Int32)) hx hb dX1_isTestFor_46 (by decide) ?_
    refine pg_aI C hH hf dX1_isTestFor_48 (fun v48 hf => ?_)
    refine lv_if_ne (tgt := 98) hx hb dX1_isTestFor_49 (by decide) (fun cn => ?_) (fun cn => ?_)
    · have hf := (if_neg cn).symm.trans hf
      refine lv_iconst (v := (0 : Int32)) hx hb dX1_isTestFor_98 (by decide) ?_
      exact pg_zret C hr hH hf dX1_isTestFor_99
    · have hf := (if_pos cn).symm.trans hf
      refine lv_aload_n hx hb dX1_isTestFor_52 rfl (lv_at hl 2 rfl) ?_
      refine pg_gR C hH fl_X1_26 hf dX1_isTestFor_53 (fun v53 hf => ?_)
      refine lv_iload_n hx hb dX1_isTestFor_56 rfl (lv_at hl 4 rfl) ?_
      refine pg_Vi (As := [.int x2]) C hH mi_X2_isAmongKin vl_X1_49 (q := (RX2, TX2, 8)) (ci := 2) rfl rfl hf (fun _ e1 => (oO_sp e1).1) (fun _ _ e1 => c_X2_isAmongKin e1) rfl rfl hl.1 (Nat.le_of_ble_eq_true rfl) ⟨Nat.le_of_ble_eq_true rfl, Nat.le_of_ble_eq_true rfl⟩ ⟨Nat.zero_le _, Nat.zero_le _⟩ dX1_isTestFor_57 (fun H locs v57 h57 hH hf => ?_)
      refine lv_if_ne (tgt := 98) hx hb dX1_isTestFor_60 (by decide) (fun cn => ?_) (fun cn => ?_)
      · have hf := (if_neg cn).symm.trans hf
        refine lv_iconst (v := (0 : Int32)) hx hb dX1_isTestFor_98 (by decide) ?_
        exact pg_zret C hr hH hf dX1_isTestFor_99
      · have hf := (if_pos cn).symm.trans hf
        refine lv_iload_n hx hb dX1_isTestFor_63 rfl (lv_at hl 1 rfl) ?_
        refine lv_iload hx hb dX1_isTestFor_64 (lv_at hl 0 rfl) ?_
        refine lv_icmp_eq (tgt := 82) hx hb dX1_isTestFor_66 (by decide) (fun cn => ?_) (fun cn => ?_)
        · have hf := (if_pos cn).symm.trans hf
          exact wX1_isTestFor_b82 C hr hH hf (lv_sub hl [2, 3, 4] rfl)
        · have hf := (if_neg cn).symm.trans hf
          refine lv_aload_n hx hb dX1_isTestFor_69 rfl (lv_at hl 2 rfl) ?_
          refine pg_gR C hH fl_X1_22 hf dX1_isTestFor_70 (fun v70 hf => ?_)
          refine lv_iload_n hx hb dX1_isTestFor_73 rfl (lv_at hl 1 rfl) ?_
          refine lv_iload hx hb dX1_isTestFor_74 (lv_at hl 0 rfl) ?_
          refine pg_Vi (As := [.int v10, .int v22]) C hH mi_X8_areSimilar vl_X1_85 (q := (RX8, TX8, 8)) (ci := 8) rfl rfl hf (fun _ e1 => (oO_sp e1).1) (fun _ _ e1 => c_X8_areSimilar e1) rfl rfl hl.1 (Nat.le_of_ble_eq_true rfl) ⟨Nat.le_of_ble_eq_true rfl, Nat.le_of_ble_eq_true rfl⟩ ⟨Nat.zero_le _, Nat.zero_le _⟩ dX1_isTestFor_76 (fun H locs v76 h76 hH hf => ?_)
          refine lv_if_eq (tgt := 98) hx hb dX1_isTestFor_79 (by decide) (fun cn => ?_) (fun cn => ?_)
          · have hf := (if_pos cn).symm.trans hf
            refine lv_iconst (v := (0 : Int32)) hx hb dX1_isTestFor_98 (by decide) ?_
            exact pg_zret C hr hH hf dX1_isTestFor_99
          · have hf := (if_neg cn).symm.trans hf
            exact wX1_isTestFor_b82 C hr hH hf (lv_sub hl [2, 3, 4] rfl)
set_option maxHeartbeats 4000000 in
set_option maxRecDepth 100000 in
theorem wX2_measure_b28 {r : Int64} {h' : PH} (C : CT g RX2 cX2_measure 4 (Cond.code yX2_measure cX2_measure 4 (some .long) :: TB) p s m args meth c) (hr : meth.sig.returnType = some .long) {h : PH} {a0 : Nat} {x1 : Int32} {s0 : Int32} {H : Heap} {locs : List Loc} {ls : Array Slot} (hH : HS g s H locs h) (hf : mX2_measure_b28 h a0 x1 s0 = some (r, h')) (hl : lv_has ls 4 [(0, .ref (gB g + a0)), (1, .int x1)]) : W p l e (rmD 0 0 0) s m args below meth c H locs 0 0 (MQ below (QcL g r h') args s 0 0 (aB g)) (F0 m 28 ls [.int s0]) := by
  obtain ⟨⟨hx, hb, hml, hown, hts⟩, htb, hlk, hkk, hbs⟩ := id C
  unfold mX2_measure_b28 at hf
  refine lv_istore_n (lv' := [(3, .int s0), (0, .ref (gB g + a0)), (1, .int x1)]) hx hb dX2_measure_28 rfl hl (by decide) rfl (fun ls hl => ?_)
  refine lv_aload_n hx hb dX2_measure_29 rfl (lv_at hl 1 rfl) ?_
  refine pg_gR C hH fl_X2_38 hf dX2_measure_30 (fun v30 hf => ?_)
  refine pg_gR C hH fl_X2_54 hf dX2_measure_33 (fun v33 hf => ?_)
  refine lv_iload_n hx hb dX2_measure_36 rfl (lv_at hl 2 rfl) ?_
  refine pg_aR C hH (Or.inr rfl) hf dX2_measure_37 (fun v37 hf => ?_)
  refine lv_iconst (v := (3 : Int32)) hx hb dX2_measure_38 (by decide) ?_
  refine pg_aI C hH hf dX2_measure_39 (fun v39 hf => ?_)
  refine lv_i2l (v := (Int32.toInt64 v39)) hx hb dX2_measure_40 rfl ?_
  refine lv_bipush (v := (100 : Int32)) hx hb dX2_measure_41 (by decide) ?_
  refine lv_iload_n hx hb dX2_measure_43 rfl (lv_at hl 0 rfl) ?_
  refine lv_isub hx hb dX2_measure_44 ?_
  refine lv_i2l (v := (Int32.toInt64 ((100 : Int32) - s0))) hx hb dX2_measure_45 rfl ?_
  refine lv_lmul hx hb dX2_measure_46 ?_
  exact pg_lret C hr hH hf dX2_measure_47
set_option maxHeartbeats 4000000 in
set_option maxRecDepth 100000 in
theorem c_X2_measure {l : Launch} {g : GD} {h : PH} {a0 : Nat} {x1 : Int32} {r : Int64} {h' : PH} (hf : mX2_measure h a0 x1 = some (r, h')) : Met l yX2_measure (Cond.code yX2_measure cX2_measure 4 (some .long) :: TB) (rmD 0 0 0) (PcH g [.ref (gB g + a0), .int x1] h) (QcL g r h') 0 0 (aB g) := by
  refine Met.ofW (cc := cX2_measure) (maxL := 4) (ret := some .long) (by decide) rfl ?_
  intro p e s m args below meth c s₁ B hml hv
  obtain ⟨rfl, hH0, hkk0⟩ := hv
  have C : CT g RX2 cX2_measure 4 (Cond.code yX2_measure cX2_measure 4 (some .long) :: TB) p s m _ meth c := pg_ct (Tw := []) B hml hH0 hkk0
  have hr := B.returns
  have hH : HS g s s.heap [] h := ⟨hH0, va_S.rf⟩
  have hl := lv_entry ([.ref (gB g + a0), .int x1]) (n := 4) (Nat.le_of_ble_eq_true rfl)
  rw [lg_entry_eq]
  generalize (lg_sl ([.ref (gB g + a0), .int x1]) ++ List.replicate (4 - (lg_sl ([.ref (gB g + a0), .int x1])).length) Slot.unset).toArray = ls at hl ⊢
  have hl : lv_has ls 4 [(0, .ref (gB g + a0)), (1, .int x1)] := hl
  show W p l e (rmD 0 0 0) _ _ _ _ _ _ _ _ _ _ _ _
  unfold mX2_measure at hf
  obtain ⟨hO, hf⟩ := oO_sp hf
  obtain ⟨⟨hx, hb, hml, hown, hts⟩, htb, hlk, hkk, hbs⟩ := id C
  refine lv_aload_n hx hb dX2_measure_0 rfl (lv_at hl 0 rfl) ?_
  refine pg_gR C hH fl_X2_23 hf dX2_measure_1 (fun v1 hf => ?_)
  refine lv_iload_n hx hb dX2_measure_4 rfl (lv_at hl 1 rfl) ?_
  refine pg_aI C hH hf dX2_measure_5 (fun v5 hf => ?_)
  refine lv_istore_n (lv' := [(2, .int v5), (0, .ref (gB g + a0)), (1, .int x1)]) hx hb dX2_measure_6 rfl hl (by decide) rfl (fun ls hl => ?_)
  refine lv_iload_n hx hb dX2_measure_7 rfl (lv_at hl 0 rfl) ?_
  refine lv_if_ne (tgt := 15) hx hb dX2_measure_8 (by decide) (fun cn => ?_) (fun cn => ?_)
  · have hf := (if_neg cn).symm.trans hf
    refine lv_aload_n hx hb dX2_measure_15 rfl (lv_at hl 1 rfl) ?_
    refine pg_gR C hH fl_X2_38 hf dX2_measure_16 (fun v16 hf => ?_)
    refine pg_gR C hH fl_X2_130 hf dX2_measure_19 (fun v19 hf => ?_)
    refine lv_iload_n hx hb dX2_measure_22 rfl (lv_at hl 0 rfl) ?_
    refine lv_iconst (v := (1 : Int32)) hx hb dX2_measure_23 (by decide) ?_
    refine lv_isub hx hb dX2_measure_24 ?_
    refine pg_aR C hH (Or.inr rfl) hf dX2_measure_25 (fun v25 hf => ?_)
    refine lv_iconst (v := (1 : Int32)) hx hb dX2_measure_26 (by decide) ?_
    refine pg_aI C hH hf dX2_measure_27 (fun v27 hf => ?_)
    exact wX2_measure_b28 C hr hH hf (lv_sub hl [1, 2] rfl)
  · have hf := (if_pos cn).symm.trans hf
    refine lv_iconst (v := (0 : Int32)) hx hb dX2_measure_11 (by decide) ?_
    refine lv_goto (tgt := 28) hx hb dX2_measure_12 (by decide) ?_
    exact wX2_measure_b28 C hr hH hf (lv_sub hl [1, 2] rfl)
set_option maxHeartbeats 4000000 in
set_option maxRecDepth 100000 in
theorem c_X2_brought {l : Launch} {g : GD} {h : PH} {a0 : Nat} {x1 : Int32} {x2 : Int32} {r : Int64} {h' : PH} (hf : mX2_brought h a0 x1 x2 = some (r, h')) : Met l yX2_brought (Cond.code yX2_brought cX2_brought 3 (some .long) :: TB) (rmD 1 0 0) (PcH g [.ref (gB g + a0), .int x1, .int x2] h) (QcL g r h') 0 0 (aB g) := by
  refine Met.ofW (cc := cX2_brought) (maxL := 3) (ret := some .long) (by decide) rfl ?_
  intro p e s m args below meth c s₁ B hml hv
  obtain ⟨rfl, hH0, hkk0⟩ := hv
  have C : CT g RX2 cX2_brought 3 (Cond.code yX2_brought cX2_brought 3 (some .long) :: TB) p s m _ meth c := pg_ct (Tw := []) B hml hH0 hkk0
  have hr := B.returns
  have hH : HS g s s.heap [] h := ⟨hH0, va_S.rf⟩
  have hl := lv_entry ([.ref (gB g + a0), .int x1, .int x2]) (n := 3) (Nat.le_of_ble_eq_true rfl)
  rw [lg_entry_eq]
  generalize (lg_sl ([.ref (gB g + a0), .int x1, .int x2]) ++ List.replicate (3 - (lg_sl ([.ref (gB g + a0), .int x1, .int x2])).length) Slot.unset).toArray = ls at hl ⊢
  have hl : lv_has ls 3 [(0, .ref (gB g + a0)), (1, .int x1), (2, .int x2)] := hl
  show W p l e (rmD 1 0 0) _ _ _ _ _ _ _ _ _ _ _ _
  unfold mX2_brought at hf
  obtain ⟨hO, hf⟩ := oO_sp hf
  obtain ⟨⟨hx, hb, hml, hown, hts⟩, htb, hlk, hkk, hbs⟩ := id C
  refine lv_aload_n hx hb dX2_brought_0 rfl (lv_at hl 0 rfl) ?_
  refine pg_gR C hH fl_X2_31 hf dX2_brought_1 (fun v1 hf => ?_)
  refine lv_iload_n hx hb dX2_brought_4 rfl (lv_at hl 2 rfl) ?_
  refine pg_aL C hH hf dX2_brought_5 (fun v5 hf => ?_)
  refine lv_aload_n hx hb dX2_brought_6 rfl (lv_at hl 0 rfl) ?_
  refine lv_iload_n hx hb dX2_brought_7 rfl (lv_at hl 1 rfl) ?_
  refine pg_Vl (As := [.int x1]) C hH mi_X2_measure vl_X2_127 (q := (RX2, TX2, 8)) (ci := 2) rfl rfl hf (fun _ e1 => (oO_sp e1).1) (fun _ _ e1 => c_X2_measure e1) rfl rfl hl.1 (Nat.le_of_ble_eq_true rfl) ⟨Nat.le_of_ble_eq_true rfl, Nat.le_of_ble_eq_true rfl⟩ ⟨Nat.zero_le _, Nat.zero_le _⟩ dX2_brought_8 (fun H locs v8 h8 hH hf => ?_)
  refine lv_lmul hx hb dX2_brought_11 ?_
  refine lv_aload_n hx hb dX2_brought_12 rfl (lv_at hl 0 rfl) ?_
  refine lv_iload_n hx hb dX2_brought_13 rfl (lv_at hl 2 rfl) ?_
  refine pg_Vl (As := [.int x2]) C hH mi_X2_measure vl_X2_127 (q := (RX2, TX2, 8)) (ci := 2) rfl rfl hf (fun _ e1 => (oO_sp e1).1) (fun _ _ e1 => c_X2_measure e1) rfl rfl hl.1 (Nat.le_of_ble_eq_true rfl) ⟨Nat.le_of_ble_eq_true rfl, Nat.le_of_ble_eq_true rfl⟩ ⟨Nat.zero_le _, Nat.zero_le _⟩ dX2_brought_14 (fun H locs v14 h14 hH hf => ?_)
  refine pg_Nl (As := [.long (v5 * v8), .long v14]) C hH mi_X9_cut (List.mem_of_getElem? (i := 3) rfl) st_X9_cut hf (fun _ _ e1 => c_X9_cut e1) rfl rfl hl.1 (Nat.le_of_ble_eq_true rfl) ⟨Nat.le_of_ble_eq_true rfl, Nat.le_of_ble_eq_true rfl⟩ ⟨Nat.zero_le _, Nat.zero_le _⟩ dX2_brought_17 (fun H locs v17 h17 hH hf => ?_)
  exact pg_lret C hr hH hf dX2_brought_20
set_option maxHeartbeats 4000000 in
set_option maxRecDepth 100000 in
theorem c_X1_addTest {l : Launch} {g : GD} {h : PH} {a0 : Nat} {x1 : Int64} {h' : PH} (hf : mX1_addTest h a0 x1 = some h') : Met l yX1_addTest (Cond.code yX1_addTest cX1_addTest 3 (none) :: TB) (rmD 0 0 0) (PcH g [.ref (gB g + a0), .long x1] h) (QcV g h') 0 0 (aB g) := by
  refine Met.ofW (cc := cX1_addTest) (maxL := 3) (ret := none) (by decide) rfl ?_
  intro p e s m args below meth c s₁ B hml hv
  obtain ⟨rfl, hH0, hkk0⟩ := hv
  have C : CT g RX1 cX1_addTest 3 (Cond.code yX1_addTest cX1_addTest 3 (none) :: TB) p s m _ meth c := pg_ct (Tw := []) B hml hH0 hkk0
  have hr := B.returns
  have hH : HS g s s.heap [] h := ⟨hH0, va_S.rf⟩
  have hl := lv_entry ([.ref (gB g + a0), .long x1]) (n := 3) (Nat.le_of_ble_eq_true rfl)
  rw [lg_entry_eq]
  generalize (lg_sl ([.ref (gB g + a0), .long x1]) ++ List.replicate (3 - (lg_sl ([.ref (gB g + a0), .long x1])).length) Slot.unset).toArray = ls at hl ⊢
  have hl : lv_has ls 3 [(0, .ref (gB g + a0)), (1, .long x1)] := hl
  show W p l e (rmD 0 0 0) _ _ _ _ _ _ _ _ _ _ _ _
  unfold mX1_addTest at hf
  obtain ⟨hO, hf⟩ := oO_sp hf
  obtain ⟨⟨hx, hb, hml, hown, hts⟩, htb, hlk, hkk, hbs⟩ := id C
  refine lv_lload_n hx hb dX1_addTest_0 rfl (lv_at hl 1 rfl) ?_
  refine lv_ldc2 (v := (-1 : Int64)) hx hb hown (hts _ (htb _ kl_X1_91)) dX1_addTest_1 ?_
  refine W.lcmp hx hb dX1_addTest_4 ?_
  refine lv_if_eq (tgt := 37) hx hb dX1_addTest_5 (by decide) (fun cn => ?_) (fun cn => ?_)
  · have hf := (if_pos ((lg_cmp_eq _ _).mp cn)).symm.trans hf
    exact pg_vret C hr hH hf dX1_addTest_37
  · have hf := (if_neg (fun z => cn ((lg_cmp_eq _ _).mpr z))).symm.trans hf
    refine lv_aload_n hx hb dX1_addTest_8 rfl (lv_at hl 0 rfl) ?_
    refine pg_gI C hH fl_X1_56 hf dX1_addTest_9 (fun v9 hf => ?_)
    refine lv_bipush (v := (11 : Int32)) hx hb dX1_addTest_12 (by decide) ?_
    refine lv_icmp_ge (tgt := 37) hx hb dX1_addTest_14 (by decide) (fun cn => ?_) (fun cn => ?_)
    · have hf := (if_pos cn).symm.trans hf
      exact pg_vret C hr hH hf dX1_addTest_37
    · have hf := (if_neg cn).symm.trans hf
      refine lv_aload_n hx hb dX1_addTest_17 rfl (lv_at hl 0 rfl) ?_
      refine pg_gR C hH fl_X1_15 hf dX1_addTest_18 (fun v18 hf => ?_)
      refine lv_aload_n hx hb dX1_addTest_21 rfl (lv_at hl 0 rfl) ?_
      refine pg_gI C hH fl_X1_56 hf dX1_addTest_22 (fun v22 hf => ?_)
      refine lv_lload_n hx hb dX1_addTest_25 rfl (lv_at hl 1 rfl) ?_
      refine pg_sL C hH hf dX1_addTest_26 (fun H locs h26 hH hf => ?_)
      refine lv_aload_n hx hb dX1_addTest_27 rfl (lv_at hl 0 rfl) ?_
      refine lv_dup hx hb dX1_addTest_28 rfl ?_
      refine pg_gI C hH fl_X1_56 hf dX1_addTest_29 (fun v29 hf => ?_)
      refine lv_iconst (v := (1 : Int32)) hx hb dX1_addTest_32 (by decide) ?_
      refine lv_iadd hx hb dX1_addTest_33 ?_
      refine pg_pI C hH fl_X1_56 fm_1_4 hf dX1_addTest_34 (fun H locs h34 hH hf => ?_)
      exact pg_vret C hr hH hf dX1_addTest_37
set_option maxHeartbeats 4000000 in
set_option maxRecDepth 100000 in
theorem c_X2_resoldWorth {l : Launch} {g : GD} {h : PH} {a0 : Nat} {x1 : Int32} {r : Int64} {h' : PH} (hf : mX2_resoldWorth h a0 x1 = some (r, h')) : Met l yX2_resoldWorth (Cond.code yX2_resoldWorth cX2_resoldWorth 4 (some .long) :: TB) (rmD 1 0 0) (PcH g [.ref (gB g + a0), .int x1] h) (QcL g r h') 0 0 (aB g) := by
  refine Met.ofW (cc := cX2_resoldWorth) (maxL := 4) (ret := some .long) (by decide) rfl ?_
  intro p e s m args below meth c s₁ B hml hv
  obtain ⟨rfl, hH0, hkk0⟩ := hv
  have C : CT g RX2 cX2_resoldWorth 4 (Cond.code yX2_resoldWorth cX2_resoldWorth 4 (some .long) :: TB) p s m _ meth c := pg_ct (Tw := []) B hml hH0 hkk0
  have hr := B.returns
  have hH : HS g s s.heap [] h := ⟨hH0, va_S.rf⟩
  have hl := lv_entry ([.ref (gB g + a0), .int x1]) (n := 4) (Nat.le_of_ble_eq_true rfl)
  rw [lg_entry_eq]
  generalize (lg_sl ([.ref (gB g + a0), .int x1]) ++ List.replicate (4 - (lg_sl ([.ref (gB g + a0), .int x1])).length) Slot.unset).toArray = ls at hl ⊢
  have hl : lv_has ls 4 [(0, .ref (gB g + a0)), (1, .int x1)] := hl
  show W p l e (rmD 1 0 0) _ _ _ _ _ _ _ _ _ _ _ _
  unfold mX2_resoldWorth at hf
  obtain ⟨hO, hf⟩ := oO_sp hf
  obtain ⟨⟨hx, hb, hml, hown, hts⟩, htb, hlk, hkk, hbs⟩ := id C
  refine lv_aload_n hx hb dX2_resoldWorth_0 rfl (lv_at hl 0 rfl) ?_
  refine pg_gR C hH fl_X2_35 hf dX2_resoldWorth_1 (fun v1 hf => ?_)
  refine lv_iload_n hx hb dX2_resoldWorth_4 rfl (lv_at hl 1 rfl) ?_
  refine pg_aI C hH hf dX2_resoldWorth_5 (fun v5 hf => ?_)
  refine lv_iconst (v := (-1 : Int32)) hx hb dX2_resoldWorth_6 (by decide) ?_
  refine lv_icmp_ne (tgt := 14) hx hb dX2_resoldWorth_7 (by decide) (fun cn => ?_) (fun cn => ?_)
  · have hf := (if_neg cn).symm.trans hf
    refine lv_aload_n hx hb dX2_resoldWorth_14 rfl (lv_at hl 0 rfl) ?_
    refine pg_gR C hH fl_X2_38 hf dX2_resoldWorth_15 (fun v15 hf => ?_)
    refine pg_gR C hH fl_X2_54 hf dX2_resoldWorth_18 (fun v18 hf => ?_)
    refine lv_iload_n hx hb dX2_resoldWorth_21 rfl (lv_at hl 1 rfl) ?_
    refine pg_aR C hH (Or.inr rfl) hf dX2_resoldWorth_22 (fun v22 hf => ?_)
    refine lv_iconst (v := (3 : Int32)) hx hb dX2_resoldWorth_23 (by decide) ?_
    refine pg_aI C hH hf dX2_resoldWorth_24 (fun v24 hf => ?_)
    refine lv_i2l (v := (Int32.toInt64 v24)) hx hb dX2_resoldWorth_25 rfl ?_
    refine lv_aload_n hx hb dX2_resoldWorth_26 rfl (lv_at hl 0 rfl) ?_
    refine pg_gR C hH fl_X2_35 hf dX2_resoldWorth_27 (fun v27 hf => ?_)
    refine lv_iload_n hx hb dX2_resoldWorth_30 rfl (lv_at hl 1 rfl) ?_
    refine pg_aI C hH hf dX2_resoldWorth_31 (fun v31 hf => ?_)
    refine lv_i2l (v := (Int32.toInt64 v31)) hx hb dX2_resoldWorth_32 rfl ?_
    refine lv_lmul hx hb dX2_resoldWorth_33 ?_
    refine lv_lstore_n (lv' := [(2, .long ((Int32.toInt64 v24) * (Int32.toInt64 v31))), (0, .ref (gB g + a0)), (1, .int x1)]) hx hb dX2_resoldWorth_34 rfl hl (by decide) rfl (fun ls hl => ?_)
    refine lv_lload_n hx hb dX2_resoldWorth_35 rfl (lv_at hl 0 rfl) ?_
    refine lv_bipush (v := (100 : Int32)) hx hb dX2_resoldWorth_36 (by decide) ?_
    refine lv_aload_n hx hb dX2_resoldWorth_38 rfl (lv_at hl 1 rfl) ?_
    refine pg_gR C hH fl_X2_38 hf dX2_resoldWorth_39 (fun v39 hf => ?_)
    refine pg_gR C hH fl_X2_45 hf dX2_resoldWorth_42 (fun v42 hf => ?_)
    refine lv_bipush (v := (8 : Int32)) hx hb dX2_resoldWorth_45 (by decide) ?_
    refine pg_aI C hH hf dX2_resoldWorth_47 (fun v47 hf => ?_)
    refine lv_isub hx hb dX2_resoldWorth_48 ?_
    refine lv_i2l (v := (Int32.toInt64 ((100 : Int32) - v47))) hx hb dX2_resoldWorth_49 rfl ?_
    refine lv_lmul hx hb dX2_resoldWorth_50 ?_
    refine lv_bipush (v := (100 : Int32)) hx hb dX2_resoldWorth_51 (by decide) ?_
    refine lv_aload_n hx hb dX2_resoldWorth_53 rfl (lv_at hl 1 rfl) ?_
    refine pg_gR C hH fl_X2_38 hf dX2_resoldWorth_54 (fun v54 hf => ?_)
    refine pg_gR C hH fl_X2_45 hf dX2_resoldWorth_57 (fun v57 hf => ?_)
    refine lv_bipush (v := (9 : Int32)) hx hb dX2_resoldWorth_60 (by decide) ?_
    refine pg_aI C hH hf dX2_resoldWorth_62 (fun v62 hf => ?_)
    refine lv_iadd hx hb dX2_resoldWorth_63 ?_
    refine lv_i2l (v := (Int32.toInt64 ((100 : Int32) + v62))) hx hb dX2_resoldWorth_64 rfl ?_
    refine pg_Nl (As := [.long (((Int32.toInt64 v24) * (Int32.toInt64 v31)) * (Int32.toInt64 ((100 : Int32) - v47))), .long (Int32.toInt64 ((100 : Int32) + v62))]) C hH mi_X9_cut (List.mem_of_getElem? (i := 3) rfl) st_X9_cut hf (fun _ _ e1 => c_X9_cut e1) rfl rfl hl.1 (Nat.le_of_ble_eq_true rfl) ⟨Nat.le_of_ble_eq_true rfl, Nat.le_of_ble_eq_true rfl⟩ ⟨Nat.zero_le _, Nat.zero_le _⟩ dX2_resoldWorth_65 (fun H locs v65 h65 hH hf => ?_)
    exact pg_lret C hr hH hf dX2_resoldWorth_68
  · have hf := (if_pos cn).symm.trans hf
    refine lv_ldc2 (v := (-1 : Int64)) hx hb hown (hts _ (htb _ kl_X2_119)) dX2_resoldWorth_10 ?_
    exact pg_lret C hr hH hf dX2_resoldWorth_13
end WK0
