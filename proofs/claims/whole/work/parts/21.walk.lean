/-! ===== 21: walks (by program) ===== -/
section WK1
variable {p : Program} {l : Launch} {e : Env} {s : State} {m : MethodId} {args : Array Value} {below : List Frame} {meth : Method} {c : Code} {g : GD}
set_option maxHeartbeats 4000000 in
set_option maxRecDepth 100000 in
theorem c_X2_madeWorth {l : Launch} {g : GD} {h : PH} {a0 : Nat} {x1 : Int32} {r : Int64} {h' : PH} (hf : mX2_madeWorth h a0 x1 = some (r, h')) : Met l yX2_madeWorth (Cond.code yX2_madeWorth cX2_madeWorth 5 (some .long) :: TB) (rmD 1 0 0) (PcH g [.ref (gB g + a0), .int x1] h) (QcL g r h') 0 0 (aB g) := by
  refine Met.ofW (cc := cX2_madeWorth) (maxL := 5) (ret := some .long) (by decide) rfl ?_
  intro p e s m args below meth c s₁ B hml hv
  obtain ⟨rfl, hH0, hkk0⟩ := hv
  have C : CT g RX2 cX2_madeWorth 5 (Cond.code yX2_madeWorth cX2_madeWorth 5 (some .long) :: TB) p s m _ meth c := pg_ct (Tw := []) B hml hH0 hkk0
  have hr := B.returns
  have hH : HS g s s.heap [] h := ⟨hH0, va_S.rf⟩
  have hl := lv_entry ([.ref (gB g + a0), .int x1]) (n := 5) (Nat.le_of_ble_eq_true rfl)
  rw [lg_entry_eq]
  generalize (lg_sl ([.ref (gB g + a0), .int x1]) ++ List.replicate (5 - (lg_sl ([.ref (gB g + a0), .int x1])).length) Slot.unset).toArray = ls at hl ⊢
  have hl : lv_has ls 5 [(0, .ref (gB g + a0)), (1, .int x1)] := hl
  show W p l e (rmD 1 0 0) _ _ _ _ _ _ _ _ _ _ _ _
  unfold mX2_madeWorth at hf
  obtain ⟨hO, hf⟩ := oO_sp hf
  obtain ⟨⟨hx, hb, hml, hown, hts⟩, htb, hlk, hkk, hbs⟩ := id C
  refine lv_aload_n hx hb dX2_madeWorth_0 rfl (lv_at hl 0 rfl) ?_
  refine pg_gR C hH fl_X2_38 hf dX2_madeWorth_1 (fun v1 hf => ?_)
  refine pg_gR C hH fl_X2_121 hf dX2_madeWorth_4 (fun v4 hf => ?_)
  refine lv_aload_n hx hb dX2_madeWorth_7 rfl (lv_at hl 0 rfl) ?_
  refine pg_gR C hH fl_X2_38 hf dX2_madeWorth_8 (fun v8 hf => ?_)
  refine pg_gR C hH fl_X2_54 hf dX2_madeWorth_11 (fun v11 hf => ?_)
  refine lv_iload_n hx hb dX2_madeWorth_14 rfl (lv_at hl 1 rfl) ?_
  refine pg_aR C hH (Or.inr rfl) hf dX2_madeWorth_15 (fun v15 hf => ?_)
  refine lv_iconst (v := (0 : Int32)) hx hb dX2_madeWorth_16 (by decide) ?_
  refine pg_aI C hH hf dX2_madeWorth_17 (fun v17 hf => ?_)
  refine pg_aR C hH (Or.inr rfl) hf dX2_madeWorth_18 (fun v18 hf => ?_)
  refine lv_astore_n (lv' := [(2, .ref (gB g + v18)), (0, .ref (gB g + a0)), (1, .int x1)]) hx hb dX2_madeWorth_19 rfl hl (by decide) rfl (fun ls hl => ?_)
  refine lv_aload_n hx hb dX2_madeWorth_20 rfl (lv_at hl 0 rfl) ?_
  refine lv_iconst (v := (2 : Int32)) hx hb dX2_madeWorth_21 (by decide) ?_
  refine pg_aI C hH hf dX2_madeWorth_22 (fun v22 hf => ?_)
  refine lv_if_ne (tgt := 30) hx hb dX2_madeWorth_23 (by decide) (fun cn => ?_) (fun cn => ?_)
  · have hf := (if_neg cn).symm.trans hf
    refine lv_aload_n hx hb dX2_madeWorth_30 rfl (lv_at hl 1 rfl) ?_
    refine pg_gR C hH fl_X2_38 hf dX2_madeWorth_31 (fun v31 hf => ?_)
    refine pg_gR C hH fl_X2_54 hf dX2_madeWorth_34 (fun v34 hf => ?_)
    refine lv_iload_n hx hb dX2_madeWorth_37 rfl (lv_at hl 2 rfl) ?_
    refine pg_aR C hH (Or.inr rfl) hf dX2_madeWorth_38 (fun v38 hf => ?_)
    refine lv_iconst (v := (3 : Int32)) hx hb dX2_madeWorth_39 (by decide) ?_
    refine pg_aI C hH hf dX2_madeWorth_40 (fun v40 hf => ?_)
    refine lv_i2l (v := (Int32.toInt64 v40)) hx hb dX2_madeWorth_41 rfl ?_
    refine lv_aload_n hx hb dX2_madeWorth_42 rfl (lv_at hl 0 rfl) ?_
    refine lv_iconst (v := (2 : Int32)) hx hb dX2_madeWorth_43 (by decide) ?_
    refine pg_aI C hH hf dX2_madeWorth_44 (fun v44 hf => ?_)
    refine lv_i2l (v := (Int32.toInt64 v44)) hx hb dX2_madeWorth_45 rfl ?_
    refine lv_lmul hx hb dX2_madeWorth_46 ?_
    refine lv_lstore_n (lv' := [(3, .long ((Int32.toInt64 v40) * (Int32.toInt64 v44))), (2, .ref (gB g + v18)), (0, .ref (gB g + a0)), (1, .int x1)]) hx hb dX2_madeWorth_47 rfl hl (by decide) rfl (fun ls hl => ?_)
    refine lv_lload_n hx hb dX2_madeWorth_48 rfl (lv_at hl 0 rfl) ?_
    refine lv_bipush (v := (100 : Int32)) hx hb dX2_madeWorth_49 (by decide) ?_
    refine lv_aload_n hx hb dX2_madeWorth_51 rfl (lv_at hl 1 rfl) ?_
    refine lv_iconst (v := (3 : Int32)) hx hb dX2_madeWorth_52 (by decide) ?_
    refine pg_aI C hH hf dX2_madeWorth_53 (fun v53 hf => ?_)
    refine lv_iadd hx hb dX2_madeWorth_54 ?_
    refine lv_i2l (v := (Int32.toInt64 ((100 : Int32) + v53))) hx hb dX2_madeWorth_55 rfl ?_
    refine lv_lmul hx hb dX2_madeWorth_56 ?_
    refine lv_ldc2 (v := (100 : Int64)) hx hb hown (hts _ (htb _ kl_X2_101)) dX2_madeWorth_57 ?_
    refine lv_ldiv hx hb dX2_madeWorth_60 (by decide) ?_
    refine lv_aload_n hx hb dX2_madeWorth_61 rfl (lv_at hl 2 rfl) ?_
    refine lv_iload_n hx hb dX2_madeWorth_62 rfl (lv_at hl 3 rfl) ?_
    refine pg_Vl (As := [.int x1]) C hH mi_X2_broughtAlong vl_X2_69 (q := (RX2, TX2, 8)) (ci := 2) rfl rfl hf (fun _ e1 => (oO_sp e1).1) (fun _ _ e1 => c_X2_broughtAlong e1) rfl rfl hl.1 (Nat.le_of_ble_eq_true rfl) ⟨Nat.le_of_ble_eq_true rfl, Nat.le_of_ble_eq_true rfl⟩ ⟨Nat.zero_le _, Nat.zero_le _⟩ dX2_madeWorth_63 (fun H locs v63 h63 hH hf => ?_)
    refine lv_ladd hx hb dX2_madeWorth_66 ?_
    exact pg_lret C hr hH hf dX2_madeWorth_67
  · have hf := (if_pos cn).symm.trans hf
    refine lv_ldc2 (v := (-1 : Int64)) hx hb hown (hts _ (htb _ kl_X2_119)) dX2_madeWorth_26 ?_
    exact pg_lret C hr hH hf dX2_madeWorth_29
set_option maxHeartbeats 4000000 in
set_option maxRecDepth 100000 in
theorem wX1_gatherTests_b7 {r7 : PH → Nat → Int32 → Int32 → Option (PH)} {h' : PH} (C : CT g RX1 cX1_gatherTests 3 (Cond.code yX1_gatherTests cX1_gatherTests 3 (none) :: TB) p s m args meth c) (hr : meth.sig.returnType = none) (k7 : ∀ {h : PH} {a0 : Nat} {x1 : Int32} {x2 : Int32} {H : Heap} {locs : List Loc} {ls : Array Slot}, HS g s H locs h → r7 h a0 x1 x2 = some h' → lv_has ls 3 [(0, .ref (gB g + a0)), (1, .int x1), (2, .int x2)] → W p l e (rmD 3 0 0) s m args below meth c H locs 0 0 (MQ below (QcV g h') args s 0 0 (aB g)) (F0 m 7 ls [])) {h : PH} {a0 : Nat} {x1 : Int32} {x2 : Int32} {H : Heap} {locs : List Loc} {ls : Array Slot} (hH : HS g s H locs h) (hf : mX1_gatherTests_b7 r7 h a0 x1 x2 = some h') (hl : lv_has ls 3 [(0, .ref (gB g + a0)), (1, .int x1), (2, .int x2)]) : W p l e (rmD 3 0 0) s m args below meth c H locs 0 0 (MQ below (QcV g h') args s 0 0 (aB g)) (F0 m 7 ls []) := by
  obtain ⟨⟨hx, hb, hml, hown, hts⟩, htb, hlk, hkk, hbs⟩ := id C
  unfold mX1_gatherTests_b7 at hf
  refine lv_iload_n hx hb dX1_gatherTests_7 rfl (lv_at hl 2 rfl) ?_
  refine lv_aload_n hx hb dX1_gatherTests_8 rfl (lv_at hl 0 rfl) ?_
  refine pg_gR C hH fl_X1_22 hf dX1_gatherTests_9 (fun v9 hf => ?_)
  refine pg_gR C hH fl_X1_36 hf dX1_gatherTests_12 (fun v12 hf => ?_)
  refine lv_iconst (v := (3 : Int32)) hx hb dX1_gatherTests_15 (by decide) ?_
  refine pg_aI C hH hf dX1_gatherTests_16 (fun v16 hf => ?_)
  refine lv_icmp_ge (tgt := 48) hx hb dX1_gatherTests_17 (by decide) (fun cn => ?_) (fun cn => ?_)
  · have hf := (if_pos cn).symm.trans hf
    refine lv_aload_n hx hb dX1_gatherTests_48 rfl (lv_at hl 0 rfl) ?_
    refine lv_aload_n hx hb dX1_gatherTests_49 rfl (lv_at hl 0 rfl) ?_
    refine pg_gR C hH fl_X1_26 hf dX1_gatherTests_50 (fun v50 hf => ?_)
    refine lv_iload_n hx hb dX1_gatherTests_53 rfl (lv_at hl 1 rfl) ?_
    refine pg_Vl (As := [.int x1]) C hH mi_X2_resoldWorth vl_X1_75 (q := (RX2, TX2, 8)) (ci := 2) rfl rfl hf (fun _ e1 => (oO_sp e1).1) (fun _ _ e1 => c_X2_resoldWorth e1) rfl rfl hl.1 (Nat.le_of_ble_eq_true rfl) ⟨Nat.le_of_ble_eq_true rfl, Nat.le_of_ble_eq_true rfl⟩ ⟨Nat.zero_le _, Nat.zero_le _⟩ dX1_gatherTests_54 (fun H locs v54 h54 hH hf => ?_)
    refine pg_Vv (As := [.long v54]) C hH mi_X1_addTest vl_X1_71 (q := (RX1, TX1, 11)) (ci := 1) rfl rfl hf (fun _ e1 => (oO_sp e1).1) (fun _ e1 => c_X1_addTest e1) rfl rfl hl.1 (Nat.le_of_ble_eq_true rfl) ⟨Nat.le_of_ble_eq_true rfl, Nat.le_of_ble_eq_true rfl⟩ ⟨Nat.zero_le _, Nat.zero_le _⟩ dX1_gatherTests_57 (fun H locs h57 hH hf => ?_)
    refine lv_aload_n hx hb dX1_gatherTests_60 rfl (lv_at hl 0 rfl) ?_
    refine lv_aload_n hx hb dX1_gatherTests_61 rfl (lv_at hl 0 rfl) ?_
    refine pg_gR C hH fl_X1_26 hf dX1_gatherTests_62 (fun v62 hf => ?_)
    refine lv_iload_n hx hb dX1_gatherTests_65 rfl (lv_at hl 1 rfl) ?_
    refine pg_Vl (As := [.int x1]) C hH mi_X2_madeWorth vl_X1_79 (q := (RX2, TX2, 8)) (ci := 2) rfl rfl hf (fun _ e1 => (oO_sp e1).1) (fun _ _ e1 => c_X2_madeWorth e1) rfl rfl hl.1 (Nat.le_of_ble_eq_true rfl) ⟨Nat.le_of_ble_eq_true rfl, Nat.le_of_ble_eq_true rfl⟩ ⟨Nat.zero_le _, Nat.zero_le _⟩ dX1_gatherTests_66 (fun H locs v66 h66 hH hf => ?_)
    refine pg_Vv (As := [.long v66]) C hH mi_X1_addTest vl_X1_71 (q := (RX1, TX1, 11)) (ci := 1) rfl rfl hf (fun _ e1 => (oO_sp e1).1) (fun _ e1 => c_X1_addTest e1) rfl rfl hl.1 (Nat.le_of_ble_eq_true rfl) ⟨Nat.le_of_ble_eq_true rfl, Nat.le_of_ble_eq_true rfl⟩ ⟨Nat.zero_le _, Nat.zero_le _⟩ dX1_gatherTests_69 (fun H locs h69 hH hf => ?_)
    exact pg_vret C hr hH hf dX1_gatherTests_72
  · have hf := (if_neg cn).symm.trans hf
    refine lv_aload_n hx hb dX1_gatherTests_20 rfl (lv_at hl 0 rfl) ?_
    refine lv_iload_n hx hb dX1_gatherTests_21 rfl (lv_at hl 1 rfl) ?_
    refine lv_iload_n hx hb dX1_gatherTests_22 rfl (lv_at hl 2 rfl) ?_
    refine pg_Vi (As := [.int x1, .int x2]) C hH mi_X1_isTestFor vl_X1_63 (q := (RX1, TX1, 11)) (ci := 1) rfl rfl hf (fun _ e1 => (oO_sp e1).1) (fun _ _ e1 => c_X1_isTestFor e1) rfl rfl hl.1 (Nat.le_of_ble_eq_true rfl) ⟨Nat.le_of_ble_eq_true rfl, Nat.le_of_ble_eq_true rfl⟩ ⟨Nat.zero_le _, Nat.zero_le _⟩ dX1_gatherTests_23 (fun H locs v23 h23 hH hf => ?_)
    refine lv_if_eq (tgt := 42) hx hb dX1_gatherTests_26 (by decide) (fun cn => ?_) (fun cn => ?_)
    · have hf := (if_pos cn).symm.trans hf
      refine lv_iinc (v := (x2 + 1)) (lv' := [(2, .int (x2 + 1)), (0, .ref (gB g + a0)), (1, .int x1)]) hx hb dX1_gatherTests_42 hl (k := 2) rfl rfl (by decide) rfl (fun ls hl => ?_)
      refine lv_goto (tgt := 7) hx hb dX1_gatherTests_45 (by decide) ?_
      exact k7 hH hf (lv_sub hl [1, 2, 0] rfl)
    · have hf := (if_neg cn).symm.trans hf
      refine lv_aload_n hx hb dX1_gatherTests_29 rfl (lv_at hl 0 rfl) ?_
      refine lv_aload_n hx hb dX1_gatherTests_30 rfl (lv_at hl 0 rfl) ?_
      refine pg_gR C hH fl_X1_26 hf dX1_gatherTests_31 (fun v31 hf => ?_)
      refine lv_iload_n hx hb dX1_gatherTests_34 rfl (lv_at hl 1 rfl) ?_
      refine lv_iload_n hx hb dX1_gatherTests_35 rfl (lv_at hl 2 rfl) ?_
      refine pg_Vl (As := [.int x1, .int x2]) C hH mi_X2_brought vl_X1_67 (q := (RX2, TX2, 8)) (ci := 2) rfl rfl hf (fun _ e1 => (oO_sp e1).1) (fun _ _ e1 => c_X2_brought e1) rfl rfl hl.1 (Nat.le_of_ble_eq_true rfl) ⟨Nat.le_of_ble_eq_true rfl, Nat.le_of_ble_eq_true rfl⟩ ⟨Nat.zero_le _, Nat.zero_le _⟩ dX1_gatherTests_36 (fun H locs v36 h36 hH hf => ?_)
      refine pg_Vv (As := [.long v36]) C hH mi_X1_addTest vl_X1_71 (q := (RX1, TX1, 11)) (ci := 1) rfl rfl hf (fun _ e1 => (oO_sp e1).1) (fun _ e1 => c_X1_addTest e1) rfl rfl hl.1 (Nat.le_of_ble_eq_true rfl) ⟨Nat.le_of_ble_eq_true rfl, Nat.le_of_ble_eq_true rfl⟩ ⟨Nat.zero_le _, Nat.zero_le _⟩ dX1_gatherTests_39 (fun H locs h39 hH hf => ?_)
      refine lv_iinc (v := (x2 + 1)) (lv' := [(2, .int (x2 + 1)), (0, .ref (gB g + a0)), (1, .int x1)]) hx hb dX1_gatherTests_42 hl (k := 2) rfl rfl (by decide) rfl (fun ls hl => ?_)
      refine lv_goto (tgt := 7) hx hb dX1_gatherTests_45 (by decide) ?_
      exact k7 hH hf (lv_sub hl [1, 2, 0] rfl)
set_option maxHeartbeats 4000000 in
set_option maxRecDepth 100000 in
theorem wX1_gatherTests_L7 {h' : PH} (C : CT g RX1 cX1_gatherTests 3 (Cond.code yX1_gatherTests cX1_gatherTests 3 (none) :: TB) p s m args meth c) (hr : meth.sig.returnType = none) : ∀ (n : Nat) {h : PH} {a0 : Nat} {x1 : Int32} {x2 : Int32} {H : Heap} {locs : List Loc} {ls : Array Slot}, HS g s H locs h → mX1_gatherTests_L7 n h a0 x1 x2 = some h' → lv_has ls 3 [(0, .ref (gB g + a0)), (1, .int x1), (2, .int x2)] → W p l e (rmD 3 0 0) s m args below meth c H locs 0 0 (MQ below (QcV g h') args s 0 0 (aB g)) (F0 m 7 ls []) := by
  intro n
  induction n with
  | zero =>
    intro h a0 x1 x2 H locs ls hH hf hl
    exact absurd hf (by intro z; cases z)
  | succ n ih =>
    intro h a0 x1 x2 H locs ls hH hf hl
    have hf : mX1_gatherTests_b7 (mX1_gatherTests_L7 n) h a0 x1 x2 = some h' := hf
    exact wX1_gatherTests_b7 C hr (fun a b c => ih a b c) hH hf hl
set_option maxHeartbeats 4000000 in
set_option maxRecDepth 100000 in
theorem c_X1_gatherTests {l : Launch} {g : GD} {h : PH} {a0 : Nat} {x1 : Int32} {h' : PH} (hf : mX1_gatherTests h a0 x1 = some h') : Met l yX1_gatherTests (Cond.code yX1_gatherTests cX1_gatherTests 3 (none) :: TB) (rmD 3 0 0) (PcH g [.ref (gB g + a0), .int x1] h) (QcV g h') 0 0 (aB g) := by
  refine Met.ofW (cc := cX1_gatherTests) (maxL := 3) (ret := none) (by decide) rfl ?_
  intro p e s m args below meth c s₁ B hml hv
  obtain ⟨rfl, hH0, hkk0⟩ := hv
  have C : CT g RX1 cX1_gatherTests 3 (Cond.code yX1_gatherTests cX1_gatherTests 3 (none) :: TB) p s m _ meth c := pg_ct (Tw := []) B hml hH0 hkk0
  have hr := B.returns
  have hH : HS g s s.heap [] h := ⟨hH0, va_S.rf⟩
  have hl := lv_entry ([.ref (gB g + a0), .int x1]) (n := 3) (Nat.le_of_ble_eq_true rfl)
  rw [lg_entry_eq]
  generalize (lg_sl ([.ref (gB g + a0), .int x1]) ++ List.replicate (3 - (lg_sl ([.ref (gB g + a0), .int x1])).length) Slot.unset).toArray = ls at hl ⊢
  have hl : lv_has ls 3 [(0, .ref (gB g + a0)), (1, .int x1)] := hl
  show W p l e (rmD 3 0 0) _ _ _ _ _ _ _ _ _ _ _ _
  unfold mX1_gatherTests at hf
  obtain ⟨hO, hf⟩ := oO_sp hf
  obtain ⟨⟨hx, hb, hml, hown, hts⟩, htb, hlk, hkk, hbs⟩ := id C
  refine lv_aload_n hx hb dX1_gatherTests_0 rfl (lv_at hl 0 rfl) ?_
  refine lv_iconst (v := (0 : Int32)) hx hb dX1_gatherTests_1 (by decide) ?_
  refine pg_pI C hH fl_X1_56 fm_1_4 hf dX1_gatherTests_2 (fun H locs h2 hH hf => ?_)
  refine lv_iconst (v := (0 : Int32)) hx hb dX1_gatherTests_5 (by decide) ?_
  refine lv_istore_n (lv' := [(2, .int (0 : Int32)), (0, .ref (gB g + a0)), (1, .int x1)]) hx hb dX1_gatherTests_6 rfl hl (by decide) rfl (fun ls hl => ?_)
  exact wX1_gatherTests_L7 C hr FU hH hf (lv_sub hl [1, 2, 0] rfl)
set_option maxHeartbeats 4000000 in
set_option maxRecDepth 100000 in
theorem c_X2_slack {l : Launch} {g : GD} {h : PH} {a0 : Nat} {x1 : Int64} {r : Int64} {h' : PH} (hf : mX2_slack h a0 x1 = some (r, h')) : Met l yX2_slack (Cond.code yX2_slack cX2_slack 3 (some .long) :: TB) (rmD 0 0 0) (PcH g [.ref (gB g + a0), .long x1] h) (QcL g r h') 0 0 (aB g) := by
  refine Met.ofW (cc := cX2_slack) (maxL := 3) (ret := some .long) (by decide) rfl ?_
  intro p e s m args below meth c s₁ B hml hv
  obtain ⟨rfl, hH0, hkk0⟩ := hv
  have C : CT g RX2 cX2_slack 3 (Cond.code yX2_slack cX2_slack 3 (some .long) :: TB) p s m _ meth c := pg_ct (Tw := []) B hml hH0 hkk0
  have hr := B.returns
  have hH : HS g s s.heap [] h := ⟨hH0, va_S.rf⟩
  have hl := lv_entry ([.ref (gB g + a0), .long x1]) (n := 3) (Nat.le_of_ble_eq_true rfl)
  rw [lg_entry_eq]
  generalize (lg_sl ([.ref (gB g + a0), .long x1]) ++ List.replicate (3 - (lg_sl ([.ref (gB g + a0), .long x1])).length) Slot.unset).toArray = ls at hl ⊢
  have hl : lv_has ls 3 [(0, .ref (gB g + a0)), (1, .long x1)] := hl
  show W p l e (rmD 0 0 0) _ _ _ _ _ _ _ _ _ _ _ _
  unfold mX2_slack at hf
  obtain ⟨hO, hf⟩ := oO_sp hf
  obtain ⟨⟨hx, hb, hml, hown, hts⟩, htb, hlk, hkk, hbs⟩ := id C
  refine lv_lload_n hx hb dX2_slack_0 rfl (lv_at hl 1 rfl) ?_
  refine lv_aload_n hx hb dX2_slack_1 rfl (lv_at hl 0 rfl) ?_
  refine pg_gR C hH fl_X2_38 hf dX2_slack_2 (fun v2 hf => ?_)
  refine pg_gR C hH fl_X2_45 hf dX2_slack_5 (fun v5 hf => ?_)
  refine lv_bipush (v := (6 : Int32)) hx hb dX2_slack_8 (by decide) ?_
  refine pg_aI C hH hf dX2_slack_10 (fun v10 hf => ?_)
  refine lv_i2l (v := (Int32.toInt64 v10)) hx hb dX2_slack_11 rfl ?_
  refine lv_lmul hx hb dX2_slack_12 ?_
  refine lv_ldc2 (v := (100 : Int64)) hx hb hown (hts _ (htb _ kl_X2_101)) dX2_slack_13 ?_
  refine lv_ldiv hx hb dX2_slack_16 (by decide) ?_
  exact pg_lret C hr hH hf dX2_slack_17
set_option maxHeartbeats 4000000 in
set_option maxRecDepth 100000 in
theorem wX1_isNearATest_b2 {r2 : PH → Nat → Int32 → Int32 → Option (Int32 × PH)} {r : Int32} {h' : PH} (C : CT g RX1 cX1_isNearATest 3 (Cond.code yX1_isNearATest cX1_isNearATest 3 (some .boolean) :: TB) p s m args meth c) (hr : meth.sig.returnType = some .boolean) (k2 : ∀ {h : PH} {a0 : Nat} {x1 : Int32} {x2 : Int32} {H : Heap} {locs : List Loc} {ls : Array Slot}, HS g s H locs h → r2 h a0 x1 x2 = some (r, h') → lv_has ls 3 [(0, .ref (gB g + a0)), (1, .int x1), (2, .int x2)] → W p l e (rmD 1 0 0) s m args below meth c H locs 0 0 (MQ below (QcI g r h') args s 0 0 (aB g)) (F0 m 2 ls [])) {h : PH} {a0 : Nat} {x1 : Int32} {x2 : Int32} {H : Heap} {locs : List Loc} {ls : Array Slot} (hH : HS g s H locs h) (hf : mX1_isNearATest_b2 r2 h a0 x1 x2 = some (r, h')) (hl : lv_has ls 3 [(0, .ref (gB g + a0)), (1, .int x1), (2, .int x2)]) : W p l e (rmD 1 0 0) s m args below meth c H locs 0 0 (MQ below (QcI g r h') args s 0 0 (aB g)) (F0 m 2 ls []) := by
  obtain ⟨⟨hx, hb, hml, hown, hts⟩, htb, hlk, hkk, hbs⟩ := id C
  unfold mX1_isNearATest_b2 at hf
  refine lv_iload_n hx hb dX1_isNearATest_2 rfl (lv_at hl 2 rfl) ?_
  refine lv_aload_n hx hb dX1_isNearATest_3 rfl (lv_at hl 0 rfl) ?_
  refine pg_gI C hH fl_X1_56 hf dX1_isNearATest_4 (fun v4 hf => ?_)
  refine lv_icmp_ge (tgt := 54) hx hb dX1_isNearATest_7 (by decide) (fun cn => ?_) (fun cn => ?_)
  · have hf := (if_pos cn).symm.trans hf
    refine lv_iconst (v := (0 : Int32)) hx hb dX1_isNearATest_54 (by decide) ?_
    exact pg_zret C hr hH hf dX1_isNearATest_55
  · have hf := (if_neg cn).symm.trans hf
    refine lv_aload_n hx hb dX1_isNearATest_10 rfl (lv_at hl 0 rfl) ?_
    refine pg_gR C hH fl_X1_26 hf dX1_isNearATest_11 (fun v11 hf => ?_)
    refine pg_gR C hH fl_X1_93 hf dX1_isNearATest_14 (fun v14 hf => ?_)
    refine lv_iload_n hx hb dX1_isNearATest_17 rfl (lv_at hl 1 rfl) ?_
    refine pg_aL C hH hf dX1_isNearATest_18 (fun v18 hf => ?_)
    refine lv_aload_n hx hb dX1_isNearATest_19 rfl (lv_at hl 0 rfl) ?_
    refine pg_gR C hH fl_X1_15 hf dX1_isNearATest_20 (fun v20 hf => ?_)
    refine lv_iload_n hx hb dX1_isNearATest_23 rfl (lv_at hl 2 rfl) ?_
    refine pg_aL C hH hf dX1_isNearATest_24 (fun v24 hf => ?_)
    refine lv_lsub hx hb dX1_isNearATest_25 ?_
    refine pg_labs C jm_X1_96 hl.1 (Nat.le_of_ble_eq_true rfl) (Nat.le_of_ble_eq_true rfl) ⟨Nat.zero_le _, Nat.zero_le _⟩ dX1_isNearATest_26 ?_
    refine lv_aload_n hx hb dX1_isNearATest_29 rfl (lv_at hl 0 rfl) ?_
    refine pg_gR C hH fl_X1_26 hf dX1_isNearATest_30 (fun v30 hf => ?_)
    refine lv_aload_n hx hb dX1_isNearATest_33 rfl (lv_at hl 0 rfl) ?_
    refine pg_gR C hH fl_X1_15 hf dX1_isNearATest_34 (fun v34 hf => ?_)
    refine lv_iload_n hx hb dX1_isNearATest_37 rfl (lv_at hl 2 rfl) ?_
    refine pg_aL C hH hf dX1_isNearATest_38 (fun v38 hf => ?_)
    refine pg_Vl (As := [.long v38]) C hH mi_X2_slack vl_X1_102 (q := (RX2, TX2, 8)) (ci := 2) rfl rfl hf (fun _ e1 => (oO_sp e1).1) (fun _ _ e1 => c_X2_slack e1) rfl rfl hl.1 (Nat.le_of_ble_eq_true rfl) ⟨Nat.le_of_ble_eq_true rfl, Nat.le_of_ble_eq_true rfl⟩ ⟨Nat.zero_le _, Nat.zero_le _⟩ dX1_isNearATest_39 (fun H locs v39 h39 hH hf => ?_)
    refine W.lcmp hx hb dX1_isNearATest_42 ?_
    refine lv_if_gt (tgt := 48) hx hb dX1_isNearATest_43 (by decide) (fun cn => ?_) (fun cn => ?_)
    · have hf := (if_pos ((lg_cmp_gt _ _).mp cn)).symm.trans hf
      refine lv_iinc (v := (x2 + 1)) (lv' := [(2, .int (x2 + 1)), (0, .ref (gB g + a0)), (1, .int x1)]) hx hb dX1_isNearATest_48 hl (k := 2) rfl rfl (by decide) rfl (fun ls hl => ?_)
      refine lv_goto (tgt := 2) hx hb dX1_isNearATest_51 (by decide) ?_
      exact k2 hH hf (lv_sub hl [1, 2, 0] rfl)
    · have hf := (if_neg (fun z => cn ((lg_cmp_gt _ _).mpr z))).symm.trans hf
      refine lv_iconst (v := (1 : Int32)) hx hb dX1_isNearATest_46 (by decide) ?_
      exact pg_zret C hr hH hf dX1_isNearATest_47
set_option maxHeartbeats 4000000 in
set_option maxRecDepth 100000 in
theorem wX1_isNearATest_L2 {r : Int32} {h' : PH} (C : CT g RX1 cX1_isNearATest 3 (Cond.code yX1_isNearATest cX1_isNearATest 3 (some .boolean) :: TB) p s m args meth c) (hr : meth.sig.returnType = some .boolean) : ∀ (n : Nat) {h : PH} {a0 : Nat} {x1 : Int32} {x2 : Int32} {H : Heap} {locs : List Loc} {ls : Array Slot}, HS g s H locs h → mX1_isNearATest_L2 n h a0 x1 x2 = some (r, h') → lv_has ls 3 [(0, .ref (gB g + a0)), (1, .int x1), (2, .int x2)] → W p l e (rmD 1 0 0) s m args below meth c H locs 0 0 (MQ below (QcI g r h') args s 0 0 (aB g)) (F0 m 2 ls []) := by
  intro n
  induction n with
  | zero =>
    intro h a0 x1 x2 H locs ls hH hf hl
    exact absurd hf (by intro z; cases z)
  | succ n ih =>
    intro h a0 x1 x2 H locs ls hH hf hl
    have hf : mX1_isNearATest_b2 (mX1_isNearATest_L2 n) h a0 x1 x2 = some (r, h') := hf
    exact wX1_isNearATest_b2 C hr (fun a b c => ih a b c) hH hf hl
set_option maxHeartbeats 4000000 in
set_option maxRecDepth 100000 in
theorem c_X1_isNearATest {l : Launch} {g : GD} {h : PH} {a0 : Nat} {x1 : Int32} {r : Int32} {h' : PH} (hf : mX1_isNearATest h a0 x1 = some (r, h')) : Met l yX1_isNearATest (Cond.code yX1_isNearATest cX1_isNearATest 3 (some .boolean) :: TB) (rmD 1 0 0) (PcH g [.ref (gB g + a0), .int x1] h) (QcI g r h') 0 0 (aB g) := by
  refine Met.ofW (cc := cX1_isNearATest) (maxL := 3) (ret := some .boolean) (by decide) rfl ?_
  intro p e s m args below meth c s₁ B hml hv
  obtain ⟨rfl, hH0, hkk0⟩ := hv
  have C : CT g RX1 cX1_isNearATest 3 (Cond.code yX1_isNearATest cX1_isNearATest 3 (some .boolean) :: TB) p s m _ meth c := pg_ct (Tw := []) B hml hH0 hkk0
  have hr := B.returns
  have hH : HS g s s.heap [] h := ⟨hH0, va_S.rf⟩
  have hl := lv_entry ([.ref (gB g + a0), .int x1]) (n := 3) (Nat.le_of_ble_eq_true rfl)
  rw [lg_entry_eq]
  generalize (lg_sl ([.ref (gB g + a0), .int x1]) ++ List.replicate (3 - (lg_sl ([.ref (gB g + a0), .int x1])).length) Slot.unset).toArray = ls at hl ⊢
  have hl : lv_has ls 3 [(0, .ref (gB g + a0)), (1, .int x1)] := hl
  show W p l e (rmD 1 0 0) _ _ _ _ _ _ _ _ _ _ _ _
  unfold mX1_isNearATest at hf
  obtain ⟨hO, hf⟩ := oO_sp hf
  obtain ⟨⟨hx, hb, hml, hown, hts⟩, htb, hlk, hkk, hbs⟩ := id C
  refine lv_iconst (v := (0 : Int32)) hx hb dX1_isNearATest_0 (by decide) ?_
  refine lv_istore_n (lv' := [(2, .int (0 : Int32)), (0, .ref (gB g + a0)), (1, .int x1)]) hx hb dX1_isNearATest_1 rfl hl (by decide) rfl (fun ls hl => ?_)
  exact wX1_isNearATest_L2 C hr FU hH hf (lv_sub hl [1, 2, 0] rfl)
set_option maxHeartbeats 4000000 in
set_option maxRecDepth 100000 in
theorem c_X1_judge {l : Launch} {g : GD} {h : PH} {a0 : Nat} {x1 : Int32} {r : Int32} {h' : PH} (hf : mX1_judge h a0 x1 = some (r, h')) : Met l yX1_judge (Cond.code yX1_judge cX1_judge 2 (some .int) :: TB) (rmD 4 0 0) (PcH g [.ref (gB g + a0), .int x1] h) (QcI g r h') 0 0 (aB g) := by
  refine Met.ofW (cc := cX1_judge) (maxL := 2) (ret := some .int) (by decide) rfl ?_
  intro p e s m args below meth c s₁ B hml hv
  obtain ⟨rfl, hH0, hkk0⟩ := hv
  have C : CT g RX1 cX1_judge 2 (Cond.code yX1_judge cX1_judge 2 (some .int) :: TB) p s m _ meth c := pg_ct (Tw := []) B hml hH0 hkk0
  have hr := B.returns
  have hH : HS g s s.heap [] h := ⟨hH0, va_S.rf⟩
  have hl := lv_entry ([.ref (gB g + a0), .int x1]) (n := 2) (Nat.le_of_ble_eq_true rfl)
  rw [lg_entry_eq]
  generalize (lg_sl ([.ref (gB g + a0), .int x1]) ++ List.replicate (2 - (lg_sl ([.ref (gB g + a0), .int x1])).length) Slot.unset).toArray = ls at hl ⊢
  have hl : lv_has ls 2 [(0, .ref (gB g + a0)), (1, .int x1)] := hl
  show W p l e (rmD 4 0 0) _ _ _ _ _ _ _ _ _ _ _ _
  unfold mX1_judge at hf
  obtain ⟨hO, hf⟩ := oO_sp hf
  obtain ⟨⟨hx, hb, hml, hown, hts⟩, htb, hlk, hkk, hbs⟩ := id C
  refine lv_aload_n hx hb dX1_judge_0 rfl (lv_at hl 0 rfl) ?_
  refine pg_gR C hH fl_X1_22 hf dX1_judge_1 (fun v1 hf => ?_)
  refine pg_gR C hH fl_X1_45 hf dX1_judge_4 (fun v4 hf => ?_)
  refine lv_iload_n hx hb dX1_judge_7 rfl (lv_at hl 1 rfl) ?_
  refine pg_aR C hH (Or.inr rfl) hf dX1_judge_8 (fun v8 hf => ?_)
  refine lv_bipush (v := (6 : Int32)) hx hb dX1_judge_9 (by decide) ?_
  refine pg_aI C hH hf dX1_judge_11 (fun v11 hf => ?_)
  refine lv_if_eq (tgt := 18) hx hb dX1_judge_12 (by decide) (fun cn => ?_) (fun cn => ?_)
  · have hf := (if_pos cn).symm.trans hf
    refine lv_aload_n hx hb dX1_judge_18 rfl (lv_at hl 0 rfl) ?_
    refine pg_gR C hH fl_X1_26 hf dX1_judge_19 (fun v19 hf => ?_)
    refine lv_iload_n hx hb dX1_judge_22 rfl (lv_at hl 1 rfl) ?_
    refine pg_Vi (As := [.int x1]) C hH mi_X2_isAmongKin vl_X1_49 (q := (RX2, TX2, 8)) (ci := 2) rfl rfl hf (fun _ e1 => (oO_sp e1).1) (fun _ _ e1 => c_X2_isAmongKin e1) rfl rfl hl.1 (Nat.le_of_ble_eq_true rfl) ⟨Nat.le_of_ble_eq_true rfl, Nat.le_of_ble_eq_true rfl⟩ ⟨Nat.zero_le _, Nat.zero_le _⟩ dX1_judge_23 (fun H locs v23 h23 hH hf => ?_)
    refine lv_if_ne (tgt := 31) hx hb dX1_judge_26 (by decide) (fun cn => ?_) (fun cn => ?_)
    · have hf := (if_neg cn).symm.trans hf
      refine lv_aload_n hx hb dX1_judge_31 rfl (lv_at hl 0 rfl) ?_
      refine lv_iload_n hx hb dX1_judge_32 rfl (lv_at hl 1 rfl) ?_
      refine pg_Vv (As := [.int x1]) C hH mi_X1_gatherTests vl_X1_53 (q := (RX1, TX1, 11)) (ci := 1) rfl rfl hf (fun _ e1 => (oO_sp e1).1) (fun _ e1 => c_X1_gatherTests e1) rfl rfl hl.1 (Nat.le_of_ble_eq_true rfl) ⟨Nat.le_of_ble_eq_true rfl, Nat.le_of_ble_eq_true rfl⟩ ⟨Nat.zero_le _, Nat.zero_le _⟩ dX1_judge_33 (fun H locs h33 hH hf => ?_)
      refine lv_aload_n hx hb dX1_judge_36 rfl (lv_at hl 0 rfl) ?_
      refine pg_gI C hH fl_X1_56 hf dX1_judge_37 (fun v37 hf => ?_)
      refine lv_if_ne (tgt := 46) hx hb dX1_judge_40 (by decide) (fun cn => ?_) (fun cn => ?_)
      · have hf := (if_neg cn).symm.trans hf
        refine lv_aload_n hx hb dX1_judge_46 rfl (lv_at hl 0 rfl) ?_
        refine lv_iload_n hx hb dX1_judge_47 rfl (lv_at hl 1 rfl) ?_
        refine pg_Vi (As := [.int x1]) C hH mi_X1_isNearATest vl_X1_60 (q := (RX1, TX1, 11)) (ci := 1) rfl rfl hf (fun _ e1 => (oO_sp e1).1) (fun _ _ e1 => c_X1_isNearATest e1) rfl rfl hl.1 (Nat.le_of_ble_eq_true rfl) ⟨Nat.le_of_ble_eq_true rfl, Nat.le_of_ble_eq_true rfl⟩ ⟨Nat.zero_le _, Nat.zero_le _⟩ dX1_judge_48 (fun H locs v48 h48 hH hf => ?_)
        refine lv_if_eq (tgt := 58) hx hb dX1_judge_51 (by decide) (fun cn => ?_) (fun cn => ?_)
        · have hf := (if_pos cn).symm.trans hf
          refine lv_bipush (v := (13 : Int32)) hx hb dX1_judge_58 (by decide) ?_
          exact pg_iret C hr hH hf dX1_judge_60
        · have hf := (if_neg cn).symm.trans hf
          refine lv_iconst (v := (0 : Int32)) hx hb dX1_judge_54 (by decide) ?_
          refine lv_goto (tgt := 60) hx hb dX1_judge_55 (by decide) ?_
          exact pg_iret C hr hH hf dX1_judge_60
      · have hf := (if_pos cn).symm.trans hf
        refine lv_bipush (v := (12 : Int32)) hx hb dX1_judge_43 (by decide) ?_
        exact pg_iret C hr hH hf dX1_judge_45
    · have hf := (if_pos cn).symm.trans hf
      refine lv_iconst (v := (0 : Int32)) hx hb dX1_judge_29 (by decide) ?_
      exact pg_iret C hr hH hf dX1_judge_30
  · have hf := (if_neg cn).symm.trans hf
    refine lv_bipush (v := (11 : Int32)) hx hb dX1_judge_15 (by decide) ?_
    exact pg_iret C hr hH hf dX1_judge_17
set_option maxHeartbeats 4000000 in
set_option maxRecDepth 100000 in
theorem wX1_look_b10 {r10 : PH → Nat → Int32 → Option (PH)} {h' : PH} (C : CT g RX1 cX1_look 3 (Cond.code yX1_look cX1_look 3 (none) :: TB) p s m args meth c) (hr : meth.sig.returnType = none) (k10 : ∀ {h : PH} {a0 : Nat} {x2 : Int32} {H : Heap} {locs : List Loc} {ls : Array Slot}, HS g s H locs h → r10 h a0 x2 = some h' → lv_has ls 3 [(0, .ref (gB g + a0)), (2, .int x2)] → W p l e (rmD 5 0 0) s m args below meth c H locs 0 0 (MQ below (QcV g h') args s 0 0 (aB g)) (F0 m 10 ls [])) {h : PH} {a0 : Nat} {x2 : Int32} {H : Heap} {locs : List Loc} {ls : Array Slot} (hH : HS g s H locs h) (hf : mX1_look_b10 r10 h a0 x2 = some h') (hl : lv_has ls 3 [(0, .ref (gB g + a0)), (2, .int x2)]) : W p l e (rmD 5 0 0) s m args below meth c H locs 0 0 (MQ below (QcV g h') args s 0 0 (aB g)) (F0 m 10 ls []) := by
  obtain ⟨⟨hx, hb, hml, hown, hts⟩, htb, hlk, hkk, hbs⟩ := id C
  unfold mX1_look_b10 at hf
  refine lv_iload_n hx hb dX1_look_10 rfl (lv_at hl 1 rfl) ?_
  refine lv_aload_n hx hb dX1_look_11 rfl (lv_at hl 0 rfl) ?_
  refine pg_gR C hH fl_X1_22 hf dX1_look_12 (fun v12 hf => ?_)
  refine pg_gR C hH fl_X1_36 hf dX1_look_15 (fun v15 hf => ?_)
  refine lv_iconst (v := (3 : Int32)) hx hb dX1_look_18 (by decide) ?_
  refine pg_aI C hH hf dX1_look_19 (fun v19 hf => ?_)
  refine lv_icmp_ge (tgt := 40) hx hb dX1_look_20 (by decide) (fun cn => ?_) (fun cn => ?_)
  · have hf := (if_pos cn).symm.trans hf
    exact pg_vret C hr hH hf dX1_look_40
  · have hf := (if_neg cn).symm.trans hf
    refine lv_aload_n hx hb dX1_look_23 rfl (lv_at hl 0 rfl) ?_
    refine pg_gR C hH fl_X1_9 hf dX1_look_24 (fun v24 hf => ?_)
    refine lv_iload_n hx hb dX1_look_27 rfl (lv_at hl 1 rfl) ?_
    refine lv_aload_n hx hb dX1_look_28 rfl (lv_at hl 0 rfl) ?_
    refine lv_iload_n hx hb dX1_look_29 rfl (lv_at hl 1 rfl) ?_
    refine pg_Vi (As := [.int x2]) C hH mi_X1_judge vl_X1_41 (q := (RX1, TX1, 11)) (ci := 1) rfl rfl hf (fun _ e1 => (oO_sp e1).1) (fun _ _ e1 => c_X1_judge e1) rfl rfl hl.1 (Nat.le_of_ble_eq_true rfl) ⟨Nat.le_of_ble_eq_true rfl, Nat.le_of_ble_eq_true rfl⟩ ⟨Nat.zero_le _, Nat.zero_le _⟩ dX1_look_30 (fun H locs v30 h30 hH hf => ?_)
    refine pg_sI C hH hf dX1_look_33 (fun H locs h33 hH hf => ?_)
    refine lv_iinc (v := (x2 + 1)) (lv' := [(2, .int (x2 + 1)), (0, .ref (gB g + a0))]) hx hb dX1_look_34 hl (k := 1) rfl rfl (by decide) rfl (fun ls hl => ?_)
    refine lv_goto (tgt := 10) hx hb dX1_look_37 (by decide) ?_
    exact k10 hH hf (lv_sub hl [1, 0] rfl)
set_option maxHeartbeats 4000000 in
set_option maxRecDepth 100000 in
theorem wX1_look_L10 {h' : PH} (C : CT g RX1 cX1_look 3 (Cond.code yX1_look cX1_look 3 (none) :: TB) p s m args meth c) (hr : meth.sig.returnType = none) : ∀ (n : Nat) {h : PH} {a0 : Nat} {x2 : Int32} {H : Heap} {locs : List Loc} {ls : Array Slot}, HS g s H locs h → mX1_look_L10 n h a0 x2 = some h' → lv_has ls 3 [(0, .ref (gB g + a0)), (2, .int x2)] → W p l e (rmD 5 0 0) s m args below meth c H locs 0 0 (MQ below (QcV g h') args s 0 0 (aB g)) (F0 m 10 ls []) := by
  intro n
  induction n with
  | zero =>
    intro h a0 x2 H locs ls hH hf hl
    exact absurd hf (by intro z; cases z)
  | succ n ih =>
    intro h a0 x2 H locs ls hH hf hl
    have hf : mX1_look_b10 (mX1_look_L10 n) h a0 x2 = some h' := hf
    exact wX1_look_b10 C hr (fun a b c => ih a b c) hH hf hl
set_option maxHeartbeats 4000000 in
set_option maxRecDepth 100000 in
theorem c_X1_look {l : Launch} {g : GD} {h : PH} {a0 : Nat} {x1 : Int32} {h' : PH} (hf : mX1_look h a0 x1 = some h') : Met l yX1_look (Cond.code yX1_look cX1_look 3 (none) :: TB) (rmD 5 0 0) (PcH g [.ref (gB g + a0), .int x1] h) (QcV g h') 0 0 (aB g) := by
  refine Met.ofW (cc := cX1_look) (maxL := 3) (ret := none) (by decide) rfl ?_
  intro p e s m args below meth c s₁ B hml hv
  obtain ⟨rfl, hH0, hkk0⟩ := hv
  have C : CT g RX1 cX1_look 3 (Cond.code yX1_look cX1_look 3 (none) :: TB) p s m _ meth c := pg_ct (Tw := []) B hml hH0 hkk0
  have hr := B.returns
  have hH : HS g s s.heap [] h := ⟨hH0, va_S.rf⟩
  have hl := lv_entry ([.ref (gB g + a0), .int x1]) (n := 3) (Nat.le_of_ble_eq_true rfl)
  rw [lg_entry_eq]
  generalize (lg_sl ([.ref (gB g + a0), .int x1]) ++ List.replicate (3 - (lg_sl ([.ref (gB g + a0), .int x1])).length) Slot.unset).toArray = ls at hl ⊢
  have hl : lv_has ls 3 [(0, .ref (gB g + a0)), (1, .int x1)] := hl
  show W p l e (rmD 5 0 0) _ _ _ _ _ _ _ _ _ _ _ _
  unfold mX1_look at hf
  obtain ⟨hO, hf⟩ := oO_sp hf
  obtain ⟨⟨hx, hb, hml, hown, hts⟩, htb, hlk, hkk, hbs⟩ := id C
  refine lv_aload_n hx hb dX1_look_0 rfl (lv_at hl 0 rfl) ?_
  refine pg_gR C hH fl_X1_26 hf dX1_look_1 (fun v1 hf => ?_)
  refine lv_iload_n hx hb dX1_look_4 rfl (lv_at hl 1 rfl) ?_
  refine pg_Vv (As := [.int x1]) C hH mi_X2_look vl_X1_30 (q := (RX2, TX2, 8)) (ci := 2) rfl rfl hf (fun _ e1 => (oO_sp e1).1) (fun _ e1 => c_X2_look e1) rfl rfl hl.1 (Nat.le_of_ble_eq_true rfl) ⟨Nat.le_of_ble_eq_true rfl, Nat.le_of_ble_eq_true rfl⟩ ⟨Nat.zero_le _, Nat.zero_le _⟩ dX1_look_5 (fun H locs h5 hH hf => ?_)
  refine lv_iconst (v := (0 : Int32)) hx hb dX1_look_8 (by decide) ?_
  refine lv_istore_n (lv' := [(2, .int (0 : Int32)), (0, .ref (gB g + a0)), (1, .int x1)]) hx hb dX1_look_9 rfl hl (by decide) rfl (fun ls hl => ?_)
  exact wX1_look_L10 C hr FU hH hf (lv_sub hl [1, 0] rfl)
set_option maxHeartbeats 4000000 in
set_option maxRecDepth 100000 in
theorem wX1_leastNear_b7 {r7 : PH → Nat → Int32 → Int64 → Int32 → Option (Int32 × PH)} {r : Int32} {h' : PH} (C : CT g RX1 cX1_leastNear 7 (Cond.code yX1_leastNear cX1_leastNear 7 (some .int) :: TB) p s m args meth c) (hr : meth.sig.returnType = some .int) (k7 : ∀ {h : PH} {a0 : Nat} {x1 : Int32} {x2 : Int64} {x4 : Int32} {H : Heap} {locs : List Loc} {ls : Array Slot}, HS g s H locs h → r7 h a0 x1 x2 x4 = some (r, h') → lv_has ls 7 [(0, .ref (gB g + a0)), (1, .int x1), (2, .long x2), (4, .int x4)] → W p l e (rmD 1 0 0) s m args below meth c H locs 0 0 (MQ below (QcI g r h') args s 0 0 (aB g)) (F0 m 7 ls [])) {h : PH} {a0 : Nat} {x1 : Int32} {x2 : Int64} {x4 : Int32} {H : Heap} {locs : List Loc} {ls : Array Slot} (hH : HS g s H locs h) (hf : mX1_leastNear_b7 r7 h a0 x1 x2 x4 = some (r, h')) (hl : lv_has ls 7 [(0, .ref (gB g + a0)), (1, .int x1), (2, .long x2), (4, .int x4)]) : W p l e (rmD 1 0 0) s m args below meth c H locs 0 0 (MQ below (QcI g r h') args s 0 0 (aB g)) (F0 m 7 ls []) := by
  obtain ⟨⟨hx, hb, hml, hown, hts⟩, htb, hlk, hkk, hbs⟩ := id C
  unfold mX1_leastNear_b7 at hf
  refine lv_iload hx hb dX1_leastNear_7 (lv_at hl 3 rfl) ?_
  refine lv_aload_n hx hb dX1_leastNear_9 rfl (lv_at hl 0 rfl) ?_
  refine pg_gI C hH fl_X1_56 hf dX1_leastNear_10 (fun v10 hf => ?_)
  refine lv_icmp_ge (tgt := 87) hx hb dX1_leastNear_13 (by decide) (fun cn => ?_) (fun cn => ?_)
  · have hf := (if_pos cn).symm.trans hf
    refine lv_lload_n hx hb dX1_leastNear_87 rfl (lv_at hl 2 rfl) ?_
    refine lv_ldc2 (v := (50 : Int64)) hx hb hown (hts _ (htb _ kl_X1_116)) dX1_leastNear_88 ?_
    refine W.lcmp hx hb dX1_leastNear_91 ?_
    refine lv_if_le (tgt := 100) hx hb dX1_leastNear_92 (by decide) (fun cn => ?_) (fun cn => ?_)
    · have hf := (if_pos ((lg_cmp_le _ _).mp cn)).symm.trans hf
      refine lv_lload_n hx hb dX1_leastNear_100 rfl (lv_at hl 2 rfl) ?_
      refine lv_l2i (v := (Int64.toInt32 x2)) hx hb dX1_leastNear_101 rfl ?_
      exact pg_iret C hr hH hf dX1_leastNear_102
    · have hf := (if_neg (fun z => cn ((lg_cmp_le _ _).mpr z))).symm.trans hf
      refine lv_bipush (v := (-2 : Int32)) hx hb dX1_leastNear_95 (by decide) ?_
      refine lv_goto (tgt := 102) hx hb dX1_leastNear_97 (by decide) ?_
      exact pg_iret C hr hH hf dX1_leastNear_102
  · have hf := (if_neg cn).symm.trans hf
    refine lv_aload_n hx hb dX1_leastNear_16 rfl (lv_at hl 0 rfl) ?_
    refine pg_gR C hH fl_X1_15 hf dX1_leastNear_17 (fun v17 hf => ?_)
    refine lv_iload hx hb dX1_leastNear_20 (lv_at hl 3 rfl) ?_
    refine pg_aL C hH hf dX1_leastNear_22 (fun v22 hf => ?_)
    refine lv_lconst (v := (0 : Int64)) hx hb dX1_leastNear_23 (by decide) ?_
    refine W.lcmp hx hb dX1_leastNear_24 ?_
    refine lv_if_le (tgt := 81) hx hb dX1_leastNear_25 (by decide) (fun cn => ?_) (fun cn => ?_)
    · have hf := (if_pos ((lg_cmp_le _ _).mp cn)).symm.trans hf
      refine lv_iinc (v := (x4 + 1)) (lv' := [(4, .int (x4 + 1)), (0, .ref (gB g + a0)), (1, .int x1), (2, .long x2)]) hx hb dX1_leastNear_81 hl (k := 3) rfl rfl (by decide) rfl (fun ls hl => ?_)
      refine lv_goto (tgt := 7) hx hb dX1_leastNear_84 (by decide) ?_
      exact k7 hH hf (lv_sub hl [1, 2, 3, 0] rfl)
    · have hf := (if_neg (fun z => cn ((lg_cmp_le _ _).mpr z))).symm.trans hf
      refine lv_aload_n hx hb dX1_leastNear_28 rfl (lv_at hl 0 rfl) ?_
      refine pg_gR C hH fl_X1_26 hf dX1_leastNear_29 (fun v29 hf => ?_)
      refine pg_gR C hH fl_X1_93 hf dX1_leastNear_32 (fun v32 hf => ?_)
      refine lv_iload_n hx hb dX1_leastNear_35 rfl (lv_at hl 1 rfl) ?_
      refine pg_aL C hH hf dX1_leastNear_36 (fun v36 hf => ?_)
      refine lv_aload_n hx hb dX1_leastNear_37 rfl (lv_at hl 0 rfl) ?_
      refine pg_gR C hH fl_X1_15 hf dX1_leastNear_38 (fun v38 hf => ?_)
      refine lv_iload hx hb dX1_leastNear_41 (lv_at hl 3 rfl) ?_
      refine pg_aL C hH hf dX1_leastNear_43 (fun v43 hf => ?_)
      refine lv_lsub hx hb dX1_leastNear_44 ?_
      refine pg_labs C jm_X1_96 hl.1 (Nat.le_of_ble_eq_true rfl) (Nat.le_of_ble_eq_true rfl) ⟨Nat.zero_le _, Nat.zero_le _⟩ dX1_leastNear_45 ?_
      refine lv_lstore (lv' := [(5, .long (labs (v36 - v43))), (0, .ref (gB g + a0)), (1, .int x1), (2, .long x2), (4, .int x4)]) hx hb dX1_leastNear_48 hl (by decide) rfl (fun ls hl => ?_)
      refine lv_lload_n hx hb dX1_leastNear_50 rfl (lv_at hl 3 rfl) ?_
      refine lv_lload hx hb dX1_leastNear_51 (lv_at hl 0 rfl) ?_
      refine lv_ldc2 (v := (100 : Int64)) hx hb hown (hts _ (htb _ kl_X1_107)) dX1_leastNear_53 ?_
      refine lv_lmul hx hb dX1_leastNear_56 ?_
      refine lv_aload_n hx hb dX1_leastNear_57 rfl (lv_at hl 1 rfl) ?_
      refine pg_gR C hH fl_X1_15 hf dX1_leastNear_58 (fun v58 hf => ?_)
      refine lv_iload hx hb dX1_leastNear_61 (lv_at hl 4 rfl) ?_
      refine pg_aL C hH hf dX1_leastNear_63 (fun v63 hf => ?_)
      refine lv_ladd hx hb dX1_leastNear_64 ?_
      refine lv_lconst (v := (1 : Int64)) hx hb dX1_leastNear_65 (by decide) ?_
      refine lv_lsub hx hb dX1_leastNear_66 ?_
      refine lv_aload_n hx hb dX1_leastNear_67 rfl (lv_at hl 1 rfl) ?_
      refine pg_gR C hH fl_X1_15 hf dX1_leastNear_68 (fun v68 hf => ?_)
      refine lv_iload hx hb dX1_leastNear_71 (lv_at hl 4 rfl) ?_
      refine pg_aL C hH hf dX1_leastNear_73 (fun v73 hf => ?_)
      refine pg_Nl (As := [.long ((((labs (v36 - v43)) * (100 : Int64)) + v63) - (1 : Int64)), .long v73]) C hH mi_X9_cut (List.mem_of_getElem? (i := 4) rfl) st_X9_cut hf (fun _ _ e1 => c_X9_cut e1) rfl rfl hl.1 (Nat.le_of_ble_eq_true rfl) ⟨Nat.le_of_ble_eq_true rfl, Nat.le_of_ble_eq_true rfl⟩ ⟨Nat.zero_le _, Nat.zero_le _⟩ dX1_leastNear_74 (fun H locs v74 h74 hH hf => ?_)
      refine pg_lmin C jm_X1_113 hl.1 (Nat.le_of_ble_eq_true rfl) (Nat.le_of_ble_eq_true rfl) ⟨Nat.zero_le _, Nat.zero_le _⟩ dX1_leastNear_77 ?_
      refine lv_lstore_n (lv' := [(2, .long (lmin x2 v74)), (5, .long (labs (v36 - v43))), (0, .ref (gB g + a0)), (1, .int x1), (4, .int x4)]) hx hb dX1_leastNear_80 rfl hl (by decide) rfl (fun ls hl => ?_)
      refine lv_iinc (v := (x4 + 1)) (lv' := [(4, .int (x4 + 1)), (2, .long (lmin x2 v74)), (5, .long (labs (v36 - v43))), (0, .ref (gB g + a0)), (1, .int x1)]) hx hb dX1_leastNear_81 hl (k := 4) rfl rfl (by decide) rfl (fun ls hl => ?_)
      refine lv_goto (tgt := 7) hx hb dX1_leastNear_84 (by decide) ?_
      exact k7 hH hf (lv_sub hl [3, 4, 1, 0] rfl)
set_option maxHeartbeats 4000000 in
set_option maxRecDepth 100000 in
theorem wX1_leastNear_L7 {r : Int32} {h' : PH} (C : CT g RX1 cX1_leastNear 7 (Cond.code yX1_leastNear cX1_leastNear 7 (some .int) :: TB) p s m args meth c) (hr : meth.sig.returnType = some .int) : ∀ (n : Nat) {h : PH} {a0 : Nat} {x1 : Int32} {x2 : Int64} {x4 : Int32} {H : Heap} {locs : List Loc} {ls : Array Slot}, HS g s H locs h → mX1_leastNear_L7 n h a0 x1 x2 x4 = some (r, h') → lv_has ls 7 [(0, .ref (gB g + a0)), (1, .int x1), (2, .long x2), (4, .int x4)] → W p l e (rmD 1 0 0) s m args below meth c H locs 0 0 (MQ below (QcI g r h') args s 0 0 (aB g)) (F0 m 7 ls []) := by
  intro n
  induction n with
  | zero =>
    intro h a0 x1 x2 x4 H locs ls hH hf hl
    exact absurd hf (by intro z; cases z)
  | succ n ih =>
    intro h a0 x1 x2 x4 H locs ls hH hf hl
    have hf : mX1_leastNear_b7 (mX1_leastNear_L7 n) h a0 x1 x2 x4 = some (r, h') := hf
    exact wX1_leastNear_b7 C hr (fun a b c => ih a b c) hH hf hl
set_option maxHeartbeats 4000000 in
set_option maxRecDepth 100000 in
theorem c_X1_leastNear {l : Launch} {g : GD} {h : PH} {a0 : Nat} {x1 : Int32} {r : Int32} {h' : PH} (hf : mX1_leastNear h a0 x1 = some (r, h')) : Met l yX1_leastNear (Cond.code yX1_leastNear cX1_leastNear 7 (some .int) :: TB) (rmD 1 0 0) (PcH g [.ref (gB g + a0), .int x1] h) (QcI g r h') 0 0 (aB g) := by
  refine Met.ofW (cc := cX1_leastNear) (maxL := 7) (ret := some .int) (by decide) rfl ?_
  intro p e s m args below meth c s₁ B hml hv
  obtain ⟨rfl, hH0, hkk0⟩ := hv
  have C : CT g RX1 cX1_leastNear 7 (Cond.code yX1_leastNear cX1_leastNear 7 (some .int) :: TB) p s m _ meth c := pg_ct (Tw := []) B hml hH0 hkk0
  have hr := B.returns
  have hH : HS g s s.heap [] h := ⟨hH0, va_S.rf⟩
  have hl := lv_entry ([.ref (gB g + a0), .int x1]) (n := 7) (Nat.le_of_ble_eq_true rfl)
  rw [lg_entry_eq]
  generalize (lg_sl ([.ref (gB g + a0), .int x1]) ++ List.replicate (7 - (lg_sl ([.ref (gB g + a0), .int x1])).length) Slot.unset).toArray = ls at hl ⊢
  have hl : lv_has ls 7 [(0, .ref (gB g + a0)), (1, .int x1)] := hl
  show W p l e (rmD 1 0 0) _ _ _ _ _ _ _ _ _ _ _ _
  unfold mX1_leastNear at hf
  obtain ⟨hO, hf⟩ := oO_sp hf
  obtain ⟨⟨hx, hb, hml, hown, hts⟩, htb, hlk, hkk, hbs⟩ := id C
  refine lv_ldc2 (v := (51 : Int64)) hx hb hown (hts _ (htb _ kl_X1_105)) dX1_leastNear_0 ?_
  refine lv_lstore_n (lv' := [(2, .long (51 : Int64)), (0, .ref (gB g + a0)), (1, .int x1)]) hx hb dX1_leastNear_3 rfl hl (by decide) rfl (fun ls hl => ?_)
  refine lv_iconst (v := (0 : Int32)) hx hb dX1_leastNear_4 (by decide) ?_
  refine lv_istore (lv' := [(4, .int (0 : Int32)), (2, .long (51 : Int64)), (0, .ref (gB g + a0)), (1, .int x1)]) hx hb dX1_leastNear_5 hl (by decide) rfl (fun ls hl => ?_)
  exact wX1_leastNear_L7 C hr FU hH hf (lv_sub hl [2, 3, 1, 0] rfl)
set_option maxHeartbeats 4000000 in
set_option maxRecDepth 100000 in
theorem wX1_fits_b96 {r : Int32} {h' : PH} (C : CT g RX1 cX1_fits 7 (Cond.code yX1_fits cX1_fits 7 (some .boolean) :: TB) p s m args meth c) (hr : meth.sig.returnType = some .boolean) {h : PH} {a0 : Nat} {x1 : Int32} {x2 : Int32} {s0 : Int32} {H : Heap} {locs : List Loc} {ls : Array Slot} (hH : HS g s H locs h) (hf : mX1_fits_b96 h a0 x1 x2 s0 = some (r, h')) (hl : lv_has ls 7 [(0, .ref (gB g + a0)), (1, .int x1), (2, .int x2)]) : W p l e (rmD 2 0 0) s m args below meth c H locs 0 0 (MQ below (QcI g r h') args s 0 0 (aB g)) (F0 m 96 ls [.int s0]) := by
  obtain ⟨⟨hx, hb, hml, hown, hts⟩, htb, hlk, hkk, hbs⟩ := id C
  unfold mX1_fits_b96 at hf
  refine lv_istore (lv' := [(6, .int s0), (0, .ref (gB g + a0)), (1, .int x1), (2, .int x2)]) hx hb dX1_fits_96 hl (by decide) rfl (fun ls hl => ?_)
  refine lv_iload hx hb dX1_fits_98 (lv_at hl 0 rfl) ?_
  refine lv_if_eq (tgt := 119) hx hb dX1_fits_100 (by decide) (fun cn => ?_) (fun cn => ?_)
  · have hf := (if_pos cn).symm.trans hf
    refine lv_iconst (v := (0 : Int32)) hx hb dX1_fits_119 (by decide) ?_
    exact pg_zret C hr hH hf dX1_fits_120
  · have hf := (if_neg cn).symm.trans hf
    refine lv_aload_n hx hb dX1_fits_103 rfl (lv_at hl 1 rfl) ?_
    refine pg_gR C hH fl_X1_26 hf dX1_fits_104 (fun v104 hf => ?_)
    refine lv_iload_n hx hb dX1_fits_107 rfl (lv_at hl 2 rfl) ?_
    refine lv_iload_n hx hb dX1_fits_108 rfl (lv_at hl 3 rfl) ?_
    refine pg_Vi (As := [.int x1, .int x2]) C hH mi_X2_isInWindow vl_X1_88 (q := (RX2, TX2, 8)) (ci := 2) rfl rfl hf (fun _ e1 => (oO_sp e1).1) (fun _ _ e1 => c_X2_isInWindow e1) rfl rfl hl.1 (Nat.le_of_ble_eq_true rfl) ⟨Nat.le_of_ble_eq_true rfl, Nat.le_of_ble_eq_true rfl⟩ ⟨Nat.zero_le _, Nat.zero_le _⟩ dX1_fits_109 (fun H locs v109 h109 hH hf => ?_)
    refine lv_if_eq (tgt := 119) hx hb dX1_fits_112 (by decide) (fun cn => ?_) (fun cn => ?_)
    · have hf := (if_pos cn).symm.trans hf
      refine lv_iconst (v := (0 : Int32)) hx hb dX1_fits_119 (by decide) ?_
      exact pg_zret C hr hH hf dX1_fits_120
    · have hf := (if_neg cn).symm.trans hf
      refine lv_iconst (v := (1 : Int32)) hx hb dX1_fits_115 (by decide) ?_
      refine lv_goto (tgt := 120) hx hb dX1_fits_116 (by decide) ?_
      exact pg_zret C hr hH hf dX1_fits_120
set_option maxHeartbeats 4000000 in
set_option maxRecDepth 100000 in
theorem c_X1_fits {l : Launch} {g : GD} {h : PH} {a0 : Nat} {x1 : Int32} {x2 : Int32} {x3 : Int32} {r : Int32} {h' : PH} (hf : mX1_fits h a0 x1 x2 x3 = some (r, h')) : Met l yX1_fits (Cond.code yX1_fits cX1_fits 7 (some .boolean) :: TB) (rmD 2 0 0) (PcH g [.ref (gB g + a0), .int x1, .int x2, .int x3] h) (QcI g r h') 0 0 (aB g) := by
  refine Met.ofW (cc := cX1_fits) (maxL := 7) (ret := some .boolean) (by decide) rfl ?_
  intro p e s m args below meth c s₁ B hml hv
  obtain ⟨rfl, hH0, hkk0⟩ := hv
  have C : CT g RX1 cX1_fits 7 (Cond.code yX1_fits cX1_fits 7 (some .boolean) :: TB) p s m _ meth c := pg_ct (Tw := []) B hml hH0 hkk0
  have hr := B.returns
  have hH : HS g s s.heap [] h := ⟨hH0, va_S.rf⟩
  have hl := lv_entry ([.ref (gB g + a0), .int x1, .int x2, .int x3]) (n := 7) (Nat.le_of_ble_eq_true rfl)
  rw [lg_entry_eq]
  generalize (lg_sl ([.ref (gB g + a0), .int x1, .int x2, .int x3]) ++ List.replicate (7 - (lg_sl ([.ref (gB g + a0), .int x1, .int x2, .int x3])).length) Slot.unset).toArray = ls at hl ⊢
  have hl : lv_has ls 7 [(0, .ref (gB g + a0)), (1, .int x1), (2, .int x2), (3, .int x3)] := hl
  show W p l e (rmD 2 0 0) _ _ _ _ _ _ _ _ _ _ _ _
  unfold mX1_fits at hf
  obtain ⟨hO, hf⟩ := oO_sp hf
  obtain ⟨⟨hx, hb, hml, hown, hts⟩, htb, hlk, hkk, hbs⟩ := id C
  refine lv_aload_n hx hb dX1_fits_0 rfl (lv_at hl 0 rfl) ?_
  refine pg_gR C hH fl_X1_22 hf dX1_fits_1 (fun v1 hf => ?_)
  refine pg_gR C hH fl_X1_45 hf dX1_fits_4 (fun v4 hf => ?_)
  refine lv_iload_n hx hb dX1_fits_7 rfl (lv_at hl 1 rfl) ?_
  refine pg_aR C hH (Or.inr rfl) hf dX1_fits_8 (fun v8 hf => ?_)
  refine lv_iconst (v := (0 : Int32)) hx hb dX1_fits_9 (by decide) ?_
  refine pg_aI C hH hf dX1_fits_10 (fun v10 hf => ?_)
  refine lv_istore (lv' := [(4, .int v10), (0, .ref (gB g + a0)), (1, .int x1), (2, .int x2), (3, .int x3)]) hx hb dX1_fits_11 hl (by decide) rfl (fun ls hl => ?_)
  refine lv_aload_n hx hb dX1_fits_13 rfl (lv_at hl 1 rfl) ?_
  refine pg_gR C hH fl_X1_22 hf dX1_fits_14 (fun v14 hf => ?_)
  refine pg_gR C hH fl_X1_45 hf dX1_fits_17 (fun v17 hf => ?_)
  refine lv_iload_n hx hb dX1_fits_20 rfl (lv_at hl 3 rfl) ?_
  refine pg_aR C hH (Or.inr rfl) hf dX1_fits_21 (fun v21 hf => ?_)
  refine lv_iconst (v := (0 : Int32)) hx hb dX1_fits_22 (by decide) ?_
  refine pg_aI C hH hf dX1_fits_23 (fun v23 hf => ?_)
  refine lv_istore (lv' := [(5, .int v23), (4, .int v10), (0, .ref (gB g + a0)), (1, .int x1), (2, .int x2), (3, .int x3)]) hx hb dX1_fits_24 hl (by decide) rfl (fun ls hl => ?_)
  refine lv_iload_n hx hb dX1_fits_26 rfl (lv_at hl 5 rfl) ?_
  refine lv_bipush (v := (6 : Int32)) hx hb dX1_fits_27 (by decide) ?_
  refine lv_icmp_ne (tgt := 65) hx hb dX1_fits_29 (by decide) (fun cn => ?_) (fun cn => ?_)
  · have hf := (if_neg cn).symm.trans hf
    refine lv_iload_n hx hb dX1_fits_65 rfl (lv_at hl 5 rfl) ?_
    refine lv_iconst (v := (2 : Int32)) hx hb dX1_fits_66 (by decide) ?_
    refine lv_icmp_ne (tgt := 85) hx hb dX1_fits_67 (by decide) (fun cn => ?_) (fun cn => ?_)
    · have hf := (if_neg cn).symm.trans hf
      refine lv_aload_n hx hb dX1_fits_85 rfl (lv_at hl 2 rfl) ?_
      refine pg_gR C hH fl_X1_22 hf dX1_fits_86 (fun v86 hf => ?_)
      refine lv_iload hx hb dX1_fits_89 (lv_at hl 1 rfl) ?_
      refine lv_iload hx hb dX1_fits_91 (lv_at hl 0 rfl) ?_
      refine pg_Vi (As := [.int v10, .int v23]) C hH mi_X8_areSimilar vl_X1_85 (q := (RX8, TX8, 8)) (ci := 8) rfl rfl hf (fun _ e1 => (oO_sp e1).1) (fun _ _ e1 => c_X8_areSimilar e1) rfl rfl hl.1 (Nat.le_of_ble_eq_true rfl) ⟨Nat.le_of_ble_eq_true rfl, Nat.le_of_ble_eq_true rfl⟩ ⟨Nat.zero_le _, Nat.zero_le _⟩ dX1_fits_93 (fun H locs v93 h93 hH hf => ?_)
      exact wX1_fits_b96 C hr hH hf (lv_sub hl [2, 3, 4] rfl)
    · have hf := (if_pos cn).symm.trans hf
      refine lv_iload hx hb dX1_fits_70 (lv_at hl 1 rfl) ?_
      refine lv_iload hx hb dX1_fits_72 (lv_at hl 0 rfl) ?_
      refine lv_icmp_ne (tgt := 81) hx hb dX1_fits_74 (by decide) (fun cn => ?_) (fun cn => ?_)
      · have hf := (if_neg cn).symm.trans hf
        refine lv_iconst (v := (0 : Int32)) hx hb dX1_fits_81 (by decide) ?_
        refine lv_goto (tgt := 96) hx hb dX1_fits_82 (by decide) ?_
        exact wX1_fits_b96 C hr hH hf (lv_sub hl [2, 3, 4] rfl)
      · have hf := (if_pos cn).symm.trans hf
        refine lv_iconst (v := (1 : Int32)) hx hb dX1_fits_77 (by decide) ?_
        refine lv_goto (tgt := 96) hx hb dX1_fits_78 (by decide) ?_
        exact wX1_fits_b96 C hr hH hf (lv_sub hl [2, 3, 4] rfl)
  · have hf := (if_pos cn).symm.trans hf
    refine lv_aload_n hx hb dX1_fits_32 rfl (lv_at hl 2 rfl) ?_
    refine pg_gR C hH fl_X1_22 hf dX1_fits_33 (fun v33 hf => ?_)
    refine pg_gR C hH fl_X1_146 hf dX1_fits_36 (fun v36 hf => ?_)
    refine lv_iload hx hb dX1_fits_39 (lv_at hl 1 rfl) ?_
    refine pg_aR C hH (Or.inr rfl) hf dX1_fits_41 (fun v41 hf => ?_)
    refine lv_iconst (v := (0 : Int32)) hx hb dX1_fits_42 (by decide) ?_
    refine pg_aI C hH hf dX1_fits_43 (fun v43 hf => ?_)
    refine lv_aload_n hx hb dX1_fits_44 rfl (lv_at hl 2 rfl) ?_
    refine pg_gR C hH fl_X1_22 hf dX1_fits_45 (fun v45 hf => ?_)
    refine pg_gR C hH fl_X1_146 hf dX1_fits_48 (fun v48 hf => ?_)
    refine lv_iload hx hb dX1_fits_51 (lv_at hl 0 rfl) ?_
    refine pg_aR C hH (Or.inr rfl) hf dX1_fits_53 (fun v53 hf => ?_)
    refine lv_iconst (v := (0 : Int32)) hx hb dX1_fits_54 (by decide) ?_
    refine pg_aI C hH hf dX1_fits_55 (fun v55 hf => ?_)
    refine lv_icmp_ne (tgt := 63) hx hb dX1_fits_56 (by decide) (fun cn => ?_) (fun cn => ?_)
    · have hf := (if_neg cn).symm.trans hf
      refine lv_iconst (v := (0 : Int32)) hx hb dX1_fits_63 (by decide) ?_
      exact pg_zret C hr hH hf dX1_fits_64
    · have hf := (if_pos cn).symm.trans hf
      refine lv_iconst (v := (1 : Int32)) hx hb dX1_fits_59 (by decide) ?_
      refine lv_goto (tgt := 64) hx hb dX1_fits_60 (by decide) ?_
      exact pg_zret C hr hH hf dX1_fits_64
set_option maxHeartbeats 4000000 in
set_option maxRecDepth 100000 in
theorem wX1_sourcesFor_b114 {r : Int32} {h' : PH} (C : CT g RX1 cX1_sourcesFor 6 (Cond.code yX1_sourcesFor cX1_sourcesFor 6 (some .int) :: TB) p s m args meth c) (hr : meth.sig.returnType = some .int) {h : PH} {x3 : Int32} {H : Heap} {locs : List Loc} {ls : Array Slot} (hH : HS g s H locs h) (hf : mX1_sourcesFor_b114 h x3 = some (r, h')) (hl : lv_has ls 6 [(3, .int x3)]) : W p l e (rmD 3 0 0) s m args below meth c H locs 0 0 (MQ below (QcI g r h') args s 0 0 (aB g)) (F0 m 114 ls []) := by
  obtain ⟨⟨hx, hb, hml, hown, hts⟩, htb, hlk, hkk, hbs⟩ := id C
  unfold mX1_sourcesFor_b114 at hf
  refine lv_iload_n hx hb dX1_sourcesFor_114 rfl (lv_at hl 0 rfl) ?_
  refine lv_goto (tgt := 120) hx hb dX1_sourcesFor_115 (by decide) ?_
  exact pg_iret C hr hH hf dX1_sourcesFor_120
set_option maxHeartbeats 4000000 in
set_option maxRecDepth 100000 in
theorem wX1_sourcesFor_b8 {r8 : PH → Nat → Int32 → Int32 → Int32 → Int32 → Int32 → Option (Int32 × PH)} {r : Int32} {h' : PH} (C : CT g RX1 cX1_sourcesFor 6 (Cond.code yX1_sourcesFor cX1_sourcesFor 6 (some .int) :: TB) p s m args meth c) (hr : meth.sig.returnType = some .int) (k8 : ∀ {h : PH} {a0 : Nat} {x1 : Int32} {x2 : Int32} {x3 : Int32} {x4 : Int32} {x5 : Int32} {H : Heap} {locs : List Loc} {ls : Array Slot}, HS g s H locs h → r8 h a0 x1 x2 x3 x4 x5 = some (r, h') → lv_has ls 6 [(0, .ref (gB g + a0)), (1, .int x1), (2, .int x2), (3, .int x3), (4, .int x4), (5, .int x5)] → W p l e (rmD 3 0 0) s m args below meth c H locs 0 0 (MQ below (QcI g r h') args s 0 0 (aB g)) (F0 m 8 ls [])) {h : PH} {a0 : Nat} {x1 : Int32} {x2 : Int32} {x3 : Int32} {x4 : Int32} {x5 : Int32} {H : Heap} {locs : List Loc} {ls : Array Slot} (hH : HS g s H locs h) (hf : mX1_sourcesFor_b8 r8 h a0 x1 x2 x3 x4 x5 = some (r, h')) (hl : lv_has ls 6 [(0, .ref (gB g + a0)), (1, .int x1), (2, .int x2), (3, .int x3), (4, .int x4), (5, .int x5)]) : W p l e (rmD 3 0 0) s m args below meth c H locs 0 0 (MQ below (QcI g r h') args s 0 0 (aB g)) (F0 m 8 ls []) := by
  obtain ⟨⟨hx, hb, hml, hown, hts⟩, htb, hlk, hkk, hbs⟩ := id C
  unfold mX1_sourcesFor_b8 at hf
  refine lv_iload hx hb dX1_sourcesFor_8 (lv_at hl 5 rfl) ?_
  refine lv_aload_n hx hb dX1_sourcesFor_10 rfl (lv_at hl 0 rfl) ?_
  refine pg_gR C hH fl_X1_22 hf dX1_sourcesFor_11 (fun v11 hf => ?_)
  refine pg_gR C hH fl_X1_36 hf dX1_sourcesFor_14 (fun v14 hf => ?_)
  refine lv_iconst (v := (3 : Int32)) hx hb dX1_sourcesFor_17 (by decide) ?_
  refine pg_aI C hH hf dX1_sourcesFor_18 (fun v18 hf => ?_)
  refine lv_icmp_ge (tgt := 103) hx hb dX1_sourcesFor_19 (by decide) (fun cn => ?_) (fun cn => ?_)
  · have hf := (if_pos cn).symm.trans hf
    refine lv_iload_n hx hb dX1_sourcesFor_103 rfl (lv_at hl 2 rfl) ?_
    refine lv_bipush (v := (6 : Int32)) hx hb dX1_sourcesFor_104 (by decide) ?_
    refine lv_icmp_eq (tgt := 114) hx hb dX1_sourcesFor_106 (by decide) (fun cn => ?_) (fun cn => ?_)
    · have hf := (if_pos cn).symm.trans hf
      exact wX1_sourcesFor_b114 C hr hH hf (lv_sub hl [3] rfl)
    · have hf := (if_neg cn).symm.trans hf
      refine lv_iload hx hb dX1_sourcesFor_109 (lv_at hl 4 rfl) ?_
      refine lv_if_ne (tgt := 118) hx hb dX1_sourcesFor_111 (by decide) (fun cn => ?_) (fun cn => ?_)
      · have hf := (if_neg cn).symm.trans hf
        refine lv_iload hx hb dX1_sourcesFor_118 (lv_at hl 4 rfl) ?_
        exact pg_iret C hr hH hf dX1_sourcesFor_120
      · have hf := (if_pos cn).symm.trans hf
        exact wX1_sourcesFor_b114 C hr hH hf (lv_sub hl [3] rfl)
  · have hf := (if_neg cn).symm.trans hf
    refine lv_aload_n hx hb dX1_sourcesFor_22 rfl (lv_at hl 0 rfl) ?_
    refine pg_gR C hH fl_X1_26 hf dX1_sourcesFor_23 (fun v23 hf => ?_)
    refine lv_iload_n hx hb dX1_sourcesFor_26 rfl (lv_at hl 1 rfl) ?_
    refine lv_iload hx hb dX1_sourcesFor_27 (lv_at hl 5 rfl) ?_
    refine pg_Vi (As := [.int x1, .int x5]) C hH mi_X2_isAnother vl_X1_82 (q := (RX2, TX2, 8)) (ci := 2) rfl rfl hf (fun _ e1 => (oO_sp e1).1) (fun _ _ e1 => c_X2_isAnother e1) rfl rfl hl.1 (Nat.le_of_ble_eq_true rfl) ⟨Nat.le_of_ble_eq_true rfl, Nat.le_of_ble_eq_true rfl⟩ ⟨Nat.zero_le _, Nat.zero_le _⟩ dX1_sourcesFor_29 (fun H locs v29 h29 hH hf => ?_)
    refine lv_if_eq (tgt := 97) hx hb dX1_sourcesFor_32 (by decide) (fun cn => ?_) (fun cn => ?_)
    · have hf := (if_pos cn).symm.trans hf
      refine lv_iinc (v := (x5 + 1)) (lv' := [(5, .int (x5 + 1)), (0, .ref (gB g + a0)), (1, .int x1), (2, .int x2), (3, .int x3), (4, .int x4)]) hx hb dX1_sourcesFor_97 hl (k := 5) rfl rfl (by decide) rfl (fun ls hl => ?_)
      refine lv_goto (tgt := 8) hx hb dX1_sourcesFor_100 (by decide) ?_
      exact k8 hH hf (lv_sub hl [1, 2, 3, 4, 5, 0] rfl)
    · have hf := (if_neg cn).symm.trans hf
      refine lv_aload_n hx hb dX1_sourcesFor_35 rfl (lv_at hl 0 rfl) ?_
      refine pg_gR C hH fl_X1_9 hf dX1_sourcesFor_36 (fun v36 hf => ?_)
      refine lv_iload hx hb dX1_sourcesFor_39 (lv_at hl 5 rfl) ?_
      refine pg_aI C hH hf dX1_sourcesFor_41 (fun v41 hf => ?_)
      refine lv_if_ne (tgt := 97) hx hb dX1_sourcesFor_42 (by decide) (fun cn => ?_) (fun cn => ?_)
      · have hf := (if_neg cn).symm.trans hf
        refine lv_iinc (v := (x5 + 1)) (lv' := [(5, .int (x5 + 1)), (0, .ref (gB g + a0)), (1, .int x1), (2, .int x2), (3, .int x3), (4, .int x4)]) hx hb dX1_sourcesFor_97 hl (k := 5) rfl rfl (by decide) rfl (fun ls hl => ?_)
        refine lv_goto (tgt := 8) hx hb dX1_sourcesFor_100 (by decide) ?_
        exact k8 hH hf (lv_sub hl [1, 2, 3, 4, 5, 0] rfl)
      · have hf := (if_pos cn).symm.trans hf
        refine lv_aload_n hx hb dX1_sourcesFor_45 rfl (lv_at hl 0 rfl) ?_
        refine lv_iload_n hx hb dX1_sourcesFor_46 rfl (lv_at hl 1 rfl) ?_
        refine lv_iload hx hb dX1_sourcesFor_47 (lv_at hl 5 rfl) ?_
        refine lv_iload_n hx hb dX1_sourcesFor_49 rfl (lv_at hl 2 rfl) ?_
        refine pg_Vi (As := [.int x1, .int x5, .int x2]) C hH mi_X1_fits vl_X1_139 (q := (RX1, TX1, 11)) (ci := 1) rfl rfl hf (fun _ e1 => (oO_sp e1).1) (fun _ _ e1 => c_X1_fits e1) rfl rfl hl.1 (Nat.le_of_ble_eq_true rfl) ⟨Nat.le_of_ble_eq_true rfl, Nat.le_of_ble_eq_true rfl⟩ ⟨Nat.zero_le _, Nat.zero_le _⟩ dX1_sourcesFor_50 (fun H locs v50 h50 hH hf => ?_)
        refine lv_if_ne (tgt := 59) hx hb dX1_sourcesFor_53 (by decide) (fun cn => ?_) (fun cn => ?_)
        · have hf := (if_neg cn).symm.trans hf
          refine lv_iload_n hx hb dX1_sourcesFor_59 rfl (lv_at hl 3 rfl) ?_
          refine lv_iconst (v := (1 : Int32)) hx hb dX1_sourcesFor_60 (by decide) ?_
          refine lv_iload hx hb dX1_sourcesFor_61 (lv_at hl 5 rfl) ?_
          refine lv_ishl hx hb dX1_sourcesFor_63 ?_
          refine lv_ior hx hb dX1_sourcesFor_64 ?_
          refine lv_istore_n (lv' := [(3, .int (x3 ||| ((1 : Int32) <<< (x5 &&& 31)))), (0, .ref (gB g + a0)), (1, .int x1), (2, .int x2), (4, .int x4), (5, .int x5)]) hx hb dX1_sourcesFor_65 rfl hl (by decide) rfl (fun ls hl => ?_)
          refine lv_aload_n hx hb dX1_sourcesFor_66 rfl (lv_at hl 1 rfl) ?_
          refine pg_gR C hH fl_X1_26 hf dX1_sourcesFor_67 (fun v67 hf => ?_)
          refine pg_gR C hH fl_X1_143 hf dX1_sourcesFor_70 (fun v70 hf => ?_)
          refine lv_iload_n hx hb dX1_sourcesFor_73 rfl (lv_at hl 2 rfl) ?_
          refine pg_aI C hH hf dX1_sourcesFor_74 (fun v74 hf => ?_)
          refine lv_aload_n hx hb dX1_sourcesFor_75 rfl (lv_at hl 1 rfl) ?_
          refine pg_gR C hH fl_X1_26 hf dX1_sourcesFor_76 (fun v76 hf => ?_)
          refine pg_gR C hH fl_X1_143 hf dX1_sourcesFor_79 (fun v79 hf => ?_)
          refine lv_iload hx hb dX1_sourcesFor_82 (lv_at hl 5 rfl) ?_
          refine pg_aI C hH hf dX1_sourcesFor_84 (fun v84 hf => ?_)
          refine lv_icmp_ne (tgt := 97) hx hb dX1_sourcesFor_85 (by decide) (fun cn => ?_) (fun cn => ?_)
          · have hf := (if_neg cn).symm.trans hf
            refine lv_iinc (v := (x5 + 1)) (lv' := [(5, .int (x5 + 1)), (3, .int (x3 ||| ((1 : Int32) <<< (x5 &&& 31)))), (0, .ref (gB g + a0)), (1, .int x1), (2, .int x2), (4, .int x4)]) hx hb dX1_sourcesFor_97 hl (k := 5) rfl rfl (by decide) rfl (fun ls hl => ?_)
            refine lv_goto (tgt := 8) hx hb dX1_sourcesFor_100 (by decide) ?_
            exact k8 hH hf (lv_sub hl [2, 3, 4, 1, 5, 0] rfl)
          · have hf := (if_pos cn).symm.trans hf
            refine lv_iload hx hb dX1_sourcesFor_88 (lv_at hl 4 rfl) ?_
            refine lv_iconst (v := (1 : Int32)) hx hb dX1_sourcesFor_90 (by decide) ?_
            refine lv_iload hx hb dX1_sourcesFor_91 (lv_at hl 5 rfl) ?_
            refine lv_ishl hx hb dX1_sourcesFor_93 ?_
            refine lv_ior hx hb dX1_sourcesFor_94 ?_
            refine lv_istore (lv' := [(4, .int (x4 ||| ((1 : Int32) <<< (x5 &&& 31)))), (3, .int (x3 ||| ((1 : Int32) <<< (x5 &&& 31)))), (0, .ref (gB g + a0)), (1, .int x1), (2, .int x2), (5, .int x5)]) hx hb dX1_sourcesFor_95 hl (by decide) rfl (fun ls hl => ?_)
            refine lv_iinc (v := (x5 + 1)) (lv' := [(5, .int (x5 + 1)), (4, .int (x4 ||| ((1 : Int32) <<< (x5 &&& 31)))), (3, .int (x3 ||| ((1 : Int32) <<< (x5 &&& 31)))), (0, .ref (gB g + a0)), (1, .int x1), (2, .int x2)]) hx hb dX1_sourcesFor_97 hl (k := 5) rfl rfl (by decide) rfl (fun ls hl => ?_)
            refine lv_goto (tgt := 8) hx hb dX1_sourcesFor_100 (by decide) ?_
            exact k8 hH hf (lv_sub hl [3, 4, 5, 2, 1, 0] rfl)
        · have hf := (if_pos cn).symm.trans hf
          refine lv_goto (tgt := 97) hx hb dX1_sourcesFor_56 (by decide) ?_
          refine lv_iinc (v := (x5 + 1)) (lv' := [(5, .int (x5 + 1)), (0, .ref (gB g + a0)), (1, .int x1), (2, .int x2), (3, .int x3), (4, .int x4)]) hx hb dX1_sourcesFor_97 hl (k := 5) rfl rfl (by decide) rfl (fun ls hl => ?_)
          refine lv_goto (tgt := 8) hx hb dX1_sourcesFor_100 (by decide) ?_
          exact k8 hH hf (lv_sub hl [1, 2, 3, 4, 5, 0] rfl)
set_option maxHeartbeats 4000000 in
set_option maxRecDepth 100000 in
theorem wX1_sourcesFor_L8 {r : Int32} {h' : PH} (C : CT g RX1 cX1_sourcesFor 6 (Cond.code yX1_sourcesFor cX1_sourcesFor 6 (some .int) :: TB) p s m args meth c) (hr : meth.sig.returnType = some .int) : ∀ (n : Nat) {h : PH} {a0 : Nat} {x1 : Int32} {x2 : Int32} {x3 : Int32} {x4 : Int32} {x5 : Int32} {H : Heap} {locs : List Loc} {ls : Array Slot}, HS g s H locs h → mX1_sourcesFor_L8 n h a0 x1 x2 x3 x4 x5 = some (r, h') → lv_has ls 6 [(0, .ref (gB g + a0)), (1, .int x1), (2, .int x2), (3, .int x3), (4, .int x4), (5, .int x5)] → W p l e (rmD 3 0 0) s m args below meth c H locs 0 0 (MQ below (QcI g r h') args s 0 0 (aB g)) (F0 m 8 ls []) := by
  intro n
  induction n with
  | zero =>
    intro h a0 x1 x2 x3 x4 x5 H locs ls hH hf hl
    exact absurd hf (by intro z; cases z)
  | succ n ih =>
    intro h a0 x1 x2 x3 x4 x5 H locs ls hH hf hl
    have hf : mX1_sourcesFor_b8 (mX1_sourcesFor_L8 n) h a0 x1 x2 x3 x4 x5 = some (r, h') := hf
    exact wX1_sourcesFor_b8 C hr (fun a b c => ih a b c) hH hf hl
set_option maxHeartbeats 4000000 in
set_option maxRecDepth 100000 in
theorem c_X1_sourcesFor {l : Launch} {g : GD} {h : PH} {a0 : Nat} {x1 : Int32} {x2 : Int32} {r : Int32} {h' : PH} (hf : mX1_sourcesFor h a0 x1 x2 = some (r, h')) : Met l yX1_sourcesFor (Cond.code yX1_sourcesFor cX1_sourcesFor 6 (some .int) :: TB) (rmD 3 0 0) (PcH g [.ref (gB g + a0), .int x1, .int x2] h) (QcI g r h') 0 0 (aB g) := by
  refine Met.ofW (cc := cX1_sourcesFor) (maxL := 6) (ret := some .int) (by decide) rfl ?_
  intro p e s m args below meth c s₁ B hml hv
  obtain ⟨rfl, hH0, hkk0⟩ := hv
  have C : CT g RX1 cX1_sourcesFor 6 (Cond.code yX1_sourcesFor cX1_sourcesFor 6 (some .int) :: TB) p s m _ meth c := pg_ct (Tw := []) B hml hH0 hkk0
  have hr := B.returns
  have hH : HS g s s.heap [] h := ⟨hH0, va_S.rf⟩
  have hl := lv_entry ([.ref (gB g + a0), .int x1, .int x2]) (n := 6) (Nat.le_of_ble_eq_true rfl)
  rw [lg_entry_eq]
  generalize (lg_sl ([.ref (gB g + a0), .int x1, .int x2]) ++ List.replicate (6 - (lg_sl ([.ref (gB g + a0), .int x1, .int x2])).length) Slot.unset).toArray = ls at hl ⊢
  have hl : lv_has ls 6 [(0, .ref (gB g + a0)), (1, .int x1), (2, .int x2)] := hl
  show W p l e (rmD 3 0 0) _ _ _ _ _ _ _ _ _ _ _ _
  unfold mX1_sourcesFor at hf
  obtain ⟨hO, hf⟩ := oO_sp hf
  obtain ⟨⟨hx, hb, hml, hown, hts⟩, htb, hlk, hkk, hbs⟩ := id C
  refine lv_iconst (v := (0 : Int32)) hx hb dX1_sourcesFor_0 (by decide) ?_
  refine lv_istore_n (lv' := [(3, .int (0 : Int32)), (0, .ref (gB g + a0)), (1, .int x1), (2, .int x2)]) hx hb dX1_sourcesFor_1 rfl hl (by decide) rfl (fun ls hl => ?_)
  refine lv_iconst (v := (0 : Int32)) hx hb dX1_sourcesFor_2 (by decide) ?_
  refine lv_istore (lv' := [(4, .int (0 : Int32)), (3, .int (0 : Int32)), (0, .ref (gB g + a0)), (1, .int x1), (2, .int x2)]) hx hb dX1_sourcesFor_3 hl (by decide) rfl (fun ls hl => ?_)
  refine lv_iconst (v := (0 : Int32)) hx hb dX1_sourcesFor_5 (by decide) ?_
  refine lv_istore (lv' := [(5, .int (0 : Int32)), (4, .int (0 : Int32)), (3, .int (0 : Int32)), (0, .ref (gB g + a0)), (1, .int x1), (2, .int x2)]) hx hb dX1_sourcesFor_6 hl (by decide) rfl (fun ls hl => ?_)
  exact wX1_sourcesFor_L8 C hr FU hH hf (lv_sub hl [3, 4, 5, 2, 1, 0] rfl)
set_option maxHeartbeats 4000000 in
set_option maxRecDepth 100000 in
theorem wX1_bringLeast_b62 {r9 : PH → Nat → Int32 → Int32 → Int32 → Option (PH)} {h' : PH} (C : CT g RX1 cX1_bringLeast 6 (Cond.code yX1_bringLeast cX1_bringLeast 6 (none) :: TB) p s m args meth c) (hr : meth.sig.returnType = none) (k9 : ∀ {h : PH} {a0 : Nat} {x1 : Int32} {x2 : Int32} {x3 : Int32} {H : Heap} {locs : List Loc} {ls : Array Slot}, HS g s H locs h → r9 h a0 x1 x2 x3 = some h' → lv_has ls 6 [(0, .ref (gB g + a0)), (1, .int x1), (2, .int x2), (3, .int x3)] → W p l e (rmD 2 0 0) s m args below meth c H locs 0 0 (MQ below (QcV g h') args s 0 0 (aB g)) (F0 m 9 ls [])) {h : PH} {a0 : Nat} {x1 : Int32} {x2 : Int32} {x3 : Int32} {x4 : Int64} {H : Heap} {locs : List Loc} {ls : Array Slot} (hH : HS g s H locs h) (hf : mX1_bringLeast_b62 r9 h a0 x1 x2 x3 x4 = some h') (hl : lv_has ls 6 [(0, .ref (gB g + a0)), (1, .int x1), (2, .int x2), (3, .int x3), (4, .long x4)]) : W p l e (rmD 2 0 0) s m args below meth c H locs 0 0 (MQ below (QcV g h') args s 0 0 (aB g)) (F0 m 62 ls []) := by
  obtain ⟨⟨hx, hb, hml, hown, hts⟩, htb, hlk, hkk, hbs⟩ := id C
  unfold mX1_bringLeast_b62 at hf
  refine lv_aload_n hx hb dX1_bringLeast_62 rfl (lv_at hl 0 rfl) ?_
  refine lv_iload_n hx hb dX1_bringLeast_63 rfl (lv_at hl 3 rfl) ?_
  refine pg_pI C hH fl_X1_118 fm_1_7 hf dX1_bringLeast_64 (fun H locs h64 hH hf => ?_)
  refine lv_aload_n hx hb dX1_bringLeast_67 rfl (lv_at hl 0 rfl) ?_
  refine lv_lload hx hb dX1_bringLeast_68 (lv_at hl 4 rfl) ?_
  refine pg_pL C hH fl_X1_121 fm_1_6 hf dX1_bringLeast_70 (fun H locs h70 hH hf => ?_)
  refine lv_iinc (v := (x3 + 1)) (lv' := [(3, .int (x3 + 1)), (0, .ref (gB g + a0)), (1, .int x1), (2, .int x2), (4, .long x4)]) hx hb dX1_bringLeast_73 hl (k := 3) rfl rfl (by decide) rfl (fun ls hl => ?_)
  refine lv_goto (tgt := 9) hx hb dX1_bringLeast_76 (by decide) ?_
  exact k9 hH hf (lv_sub hl [1, 2, 3, 0] rfl)
set_option maxHeartbeats 4000000 in
set_option maxRecDepth 100000 in
theorem wX1_bringLeast_b9 {r9 : PH → Nat → Int32 → Int32 → Int32 → Option (PH)} {h' : PH} (C : CT g RX1 cX1_bringLeast 6 (Cond.code yX1_bringLeast cX1_bringLeast 6 (none) :: TB) p s m args meth c) (hr : meth.sig.returnType = none) (k9 : ∀ {h : PH} {a0 : Nat} {x1 : Int32} {x2 : Int32} {x3 : Int32} {H : Heap} {locs : List Loc} {ls : Array Slot}, HS g s H locs h → r9 h a0 x1 x2 x3 = some h' → lv_has ls 6 [(0, .ref (gB g + a0)), (1, .int x1), (2, .int x2), (3, .int x3)] → W p l e (rmD 2 0 0) s m args below meth c H locs 0 0 (MQ below (QcV g h') args s 0 0 (aB g)) (F0 m 9 ls [])) {h : PH} {a0 : Nat} {x1 : Int32} {x2 : Int32} {x3 : Int32} {H : Heap} {locs : List Loc} {ls : Array Slot} (hH : HS g s H locs h) (hf : mX1_bringLeast_b9 r9 h a0 x1 x2 x3 = some h') (hl : lv_has ls 6 [(0, .ref (gB g + a0)), (1, .int x1), (2, .int x2), (3, .int x3)]) : W p l e (rmD 2 0 0) s m args below meth c H locs 0 0 (MQ below (QcV g h') args s 0 0 (aB g)) (F0 m 9 ls []) := by
  obtain ⟨⟨hx, hb, hml, hown, hts⟩, htb, hlk, hkk, hbs⟩ := id C
  unfold mX1_bringLeast_b9 at hf
  refine lv_iload_n hx hb dX1_bringLeast_9 rfl (lv_at hl 3 rfl) ?_
  refine lv_aload_n hx hb dX1_bringLeast_10 rfl (lv_at hl 0 rfl) ?_
  refine pg_gR C hH fl_X1_22 hf dX1_bringLeast_11 (fun v11 hf => ?_)
  refine pg_gR C hH fl_X1_36 hf dX1_bringLeast_14 (fun v14 hf => ?_)
  refine lv_iconst (v := (3 : Int32)) hx hb dX1_bringLeast_17 (by decide) ?_
  refine pg_aI C hH hf dX1_bringLeast_18 (fun v18 hf => ?_)
  refine lv_icmp_ge (tgt := 79) hx hb dX1_bringLeast_19 (by decide) (fun cn => ?_) (fun cn => ?_)
  · have hf := (if_pos cn).symm.trans hf
    exact pg_vret C hr hH hf dX1_bringLeast_79
  · have hf := (if_neg cn).symm.trans hf
    refine lv_iload_n hx hb dX1_bringLeast_22 rfl (lv_at hl 2 rfl) ?_
    refine lv_iload_n hx hb dX1_bringLeast_23 rfl (lv_at hl 3 rfl) ?_
    refine lv_ishr hx hb dX1_bringLeast_24 ?_
    refine lv_iconst (v := (1 : Int32)) hx hb dX1_bringLeast_25 (by decide) ?_
    refine lv_iand hx hb dX1_bringLeast_26 ?_
    refine lv_if_ne (tgt := 33) hx hb dX1_bringLeast_27 (by decide) (fun cn => ?_) (fun cn => ?_)
    · have hf := (if_neg cn).symm.trans hf
      refine lv_aload_n hx hb dX1_bringLeast_33 rfl (lv_at hl 0 rfl) ?_
      refine pg_gR C hH fl_X1_26 hf dX1_bringLeast_34 (fun v34 hf => ?_)
      refine lv_iload_n hx hb dX1_bringLeast_37 rfl (lv_at hl 1 rfl) ?_
      refine lv_iload_n hx hb dX1_bringLeast_38 rfl (lv_at hl 3 rfl) ?_
      refine pg_Vl (As := [.int x1, .int x3]) C hH mi_X2_brought vl_X1_67 (q := (RX2, TX2, 8)) (ci := 2) rfl rfl hf (fun _ e1 => (oO_sp e1).1) (fun _ _ e1 => c_X2_brought e1) rfl rfl hl.1 (Nat.le_of_ble_eq_true rfl) ⟨Nat.le_of_ble_eq_true rfl, Nat.le_of_ble_eq_true rfl⟩ ⟨Nat.zero_le _, Nat.zero_le _⟩ dX1_bringLeast_39 (fun H locs v39 h39 hH hf => ?_)
      refine lv_lstore (lv' := [(4, .long v39), (0, .ref (gB g + a0)), (1, .int x1), (2, .int x2), (3, .int x3)]) hx hb dX1_bringLeast_42 hl (by decide) rfl (fun ls hl => ?_)
      refine lv_aload_n hx hb dX1_bringLeast_44 rfl (lv_at hl 1 rfl) ?_
      refine pg_gI C hH fl_X1_118 hf dX1_bringLeast_45 (fun v45 hf => ?_)
      refine lv_iconst (v := (-1 : Int32)) hx hb dX1_bringLeast_48 (by decide) ?_
      refine lv_icmp_eq (tgt := 62) hx hb dX1_bringLeast_49 (by decide) (fun cn => ?_) (fun cn => ?_)
      · have hf := (if_pos cn).symm.trans hf
        exact wX1_bringLeast_b62 C hr k9 hH hf (lv_sub hl [1, 2, 3, 4, 0] rfl)
      · have hf := (if_neg cn).symm.trans hf
        refine lv_lload hx hb dX1_bringLeast_52 (lv_at hl 0 rfl) ?_
        refine lv_aload_n hx hb dX1_bringLeast_54 rfl (lv_at hl 1 rfl) ?_
        refine pg_gL C hH fl_X1_121 hf dX1_bringLeast_55 (fun v55 hf => ?_)
        refine W.lcmp hx hb dX1_bringLeast_58 ?_
        refine lv_if_ge (tgt := 73) hx hb dX1_bringLeast_59 (by decide) (fun cn => ?_) (fun cn => ?_)
        · have hf := (if_pos ((lg_cmp_ge _ _).mp cn)).symm.trans hf
          refine lv_iinc (v := (x3 + 1)) (lv' := [(3, .int (x3 + 1)), (4, .long v39), (0, .ref (gB g + a0)), (1, .int x1), (2, .int x2)]) hx hb dX1_bringLeast_73 hl (k := 4) rfl rfl (by decide) rfl (fun ls hl => ?_)
          refine lv_goto (tgt := 9) hx hb dX1_bringLeast_76 (by decide) ?_
          exact k9 hH hf (lv_sub hl [2, 3, 4, 0] rfl)
        · have hf := (if_neg (fun z => cn ((lg_cmp_ge _ _).mpr z))).symm.trans hf
          exact wX1_bringLeast_b62 C hr k9 hH hf (lv_sub hl [1, 2, 3, 4, 0] rfl)
    · have hf := (if_pos cn).symm.trans hf
      refine lv_goto (tgt := 73) hx hb dX1_bringLeast_30 (by decide) ?_
      refine lv_iinc (v := (x3 + 1)) (lv' := [(3, .int (x3 + 1)), (0, .ref (gB g + a0)), (1, .int x1), (2, .int x2)]) hx hb dX1_bringLeast_73 hl (k := 3) rfl rfl (by decide) rfl (fun ls hl => ?_)
      refine lv_goto (tgt := 9) hx hb dX1_bringLeast_76 (by decide) ?_
      exact k9 hH hf (lv_sub hl [1, 2, 3, 0] rfl)
set_option maxHeartbeats 4000000 in
set_option maxRecDepth 100000 in
theorem wX1_bringLeast_L9 {h' : PH} (C : CT g RX1 cX1_bringLeast 6 (Cond.code yX1_bringLeast cX1_bringLeast 6 (none) :: TB) p s m args meth c) (hr : meth.sig.returnType = none) : ∀ (n : Nat) {h : PH} {a0 : Nat} {x1 : Int32} {x2 : Int32} {x3 : Int32} {H : Heap} {locs : List Loc} {ls : Array Slot}, HS g s H locs h → mX1_bringLeast_L9 n h a0 x1 x2 x3 = some h' → lv_has ls 6 [(0, .ref (gB g + a0)), (1, .int x1), (2, .int x2), (3, .int x3)] → W p l e (rmD 2 0 0) s m args below meth c H locs 0 0 (MQ below (QcV g h') args s 0 0 (aB g)) (F0 m 9 ls []) := by
  intro n
  induction n with
  | zero =>
    intro h a0 x1 x2 x3 H locs ls hH hf hl
    exact absurd hf (by intro z; cases z)
  | succ n ih =>
    intro h a0 x1 x2 x3 H locs ls hH hf hl
    have hf : mX1_bringLeast_b9 (mX1_bringLeast_L9 n) h a0 x1 x2 x3 = some h' := hf
    exact wX1_bringLeast_b9 C hr (fun a b c => ih a b c) hH hf hl
set_option maxHeartbeats 4000000 in
set_option maxRecDepth 100000 in
theorem c_X1_bringLeast {l : Launch} {g : GD} {h : PH} {a0 : Nat} {x1 : Int32} {x2 : Int32} {h' : PH} (hf : mX1_bringLeast h a0 x1 x2 = some h') : Met l yX1_bringLeast (Cond.code yX1_bringLeast cX1_bringLeast 6 (none) :: TB) (rmD 2 0 0) (PcH g [.ref (gB g + a0), .int x1, .int x2] h) (QcV g h') 0 0 (aB g) := by
  refine Met.ofW (cc := cX1_bringLeast) (maxL := 6) (ret := none) (by decide) rfl ?_
  intro p e s m args below meth c s₁ B hml hv
  obtain ⟨rfl, hH0, hkk0⟩ := hv
  have C : CT g RX1 cX1_bringLeast 6 (Cond.code yX1_bringLeast cX1_bringLeast 6 (none) :: TB) p s m _ meth c := pg_ct (Tw := []) B hml hH0 hkk0
  have hr := B.returns
  have hH : HS g s s.heap [] h := ⟨hH0, va_S.rf⟩
  have hl := lv_entry ([.ref (gB g + a0), .int x1, .int x2]) (n := 6) (Nat.le_of_ble_eq_true rfl)
  rw [lg_entry_eq]
  generalize (lg_sl ([.ref (gB g + a0), .int x1, .int x2]) ++ List.replicate (6 - (lg_sl ([.ref (gB g + a0), .int x1, .int x2])).length) Slot.unset).toArray = ls at hl ⊢
  have hl : lv_has ls 6 [(0, .ref (gB g + a0)), (1, .int x1), (2, .int x2)] := hl
  show W p l e (rmD 2 0 0) _ _ _ _ _ _ _ _ _ _ _ _
  unfold mX1_bringLeast at hf
  obtain ⟨hO, hf⟩ := oO_sp hf
  obtain ⟨⟨hx, hb, hml, hown, hts⟩, htb, hlk, hkk, hbs⟩ := id C
  refine lv_aload_n hx hb dX1_bringLeast_0 rfl (lv_at hl 0 rfl) ?_
  refine lv_ldc2 (v := (-1 : Int64)) hx hb hown (hts _ (htb _ kl_X1_91)) dX1_bringLeast_1 ?_
  refine pg_pL C hH fl_X1_121 fm_1_6 hf dX1_bringLeast_4 (fun H locs h4 hH hf => ?_)
  refine lv_iconst (v := (0 : Int32)) hx hb dX1_bringLeast_7 (by decide) ?_
  refine lv_istore_n (lv' := [(3, .int (0 : Int32)), (0, .ref (gB g + a0)), (1, .int x1), (2, .int x2)]) hx hb dX1_bringLeast_8 rfl hl (by decide) rfl (fun ls hl => ?_)
  exact wX1_bringLeast_L9 C hr FU hH hf (lv_sub hl [1, 2, 3, 0] rfl)
set_option maxHeartbeats 4000000 in
set_option maxRecDepth 100000 in
theorem wX1_ask_b120 {h' : PH} (C : CT g RX1 cX1_ask 3 (Cond.code yX1_ask cX1_ask 3 (none) :: TB) p s m args meth c) (hr : meth.sig.returnType = none) {h : PH} {s0 : Nat} {s1 : Int32} {H : Heap} {locs : List Loc} {ls : Array Slot} (hH : HS g s H locs h) (hf : mX1_ask_b120 h s0 s1 = some h') (hl : lv_has ls 3 []) : W p l e (rmD 4 0 0) s m args below meth c H locs 0 0 (MQ below (QcV g h') args s 0 0 (aB g)) (F0 m 120 ls [.int s1, .ref (gB g + s0)]) := by
  obtain ⟨⟨hx, hb, hml, hown, hts⟩, htb, hlk, hkk, hbs⟩ := id C
  unfold mX1_ask_b120 at hf
  refine pg_pI C hH fl_X1_125 fm_1_5 hf dX1_ask_120 (fun H locs h120 hH hf => ?_)
  exact pg_vret C hr hH hf dX1_ask_123
set_option maxHeartbeats 4000000 in
set_option maxRecDepth 100000 in
theorem wX1_ask_b98 {h' : PH} (C : CT g RX1 cX1_ask 3 (Cond.code yX1_ask cX1_ask 3 (none) :: TB) p s m args meth c) (hr : meth.sig.returnType = none) {h : PH} {a0 : Nat} {x2 : Int32} {H : Heap} {locs : List Loc} {ls : Array Slot} (hH : HS g s H locs h) (hf : mX1_ask_b98 h a0 x2 = some h') (hl : lv_has ls 3 [(0, .ref (gB g + a0)), (2, .int x2)]) : W p l e (rmD 4 0 0) s m args below meth c H locs 0 0 (MQ below (QcV g h') args s 0 0 (aB g)) (F0 m 98 ls []) := by
  obtain ⟨⟨hx, hb, hml, hown, hts⟩, htb, hlk, hkk, hbs⟩ := id C
  unfold mX1_ask_b98 at hf
  refine lv_aload_n hx hb dX1_ask_98 rfl (lv_at hl 0 rfl) ?_
  refine lv_aload_n hx hb dX1_ask_99 rfl (lv_at hl 0 rfl) ?_
  refine pg_gL C hH fl_X1_121 hf dX1_ask_100 (fun v100 hf => ?_)
  refine lv_ldc2 (v := (-1 : Int64)) hx hb hown (hts _ (htb _ kl_X1_91)) dX1_ask_103 ?_
  refine W.lcmp hx hb dX1_ask_106 ?_
  refine lv_if_ne (tgt := 119) hx hb dX1_ask_107 (by decide) (fun cn => ?_) (fun cn => ?_)
  · have hf := (if_neg (fun z => cn ((lg_cmp_eq _ _).mpr z))).symm.trans hf
    refine lv_iconst (v := (0 : Int32)) hx hb dX1_ask_119 (by decide) ?_
    exact wX1_ask_b120 C hr hH hf (lv_sub hl [] rfl)
  · have hf := (if_pos ((lg_cmp_eq _ _).mp cn)).symm.trans hf
    refine lv_iload_n hx hb dX1_ask_110 rfl (lv_at hl 1 rfl) ?_
    refine lv_bipush (v := (10 : Int32)) hx hb dX1_ask_111 (by decide) ?_
    refine lv_imul hx hb dX1_ask_113 ?_
    refine lv_iconst (v := (1 : Int32)) hx hb dX1_ask_114 (by decide) ?_
    refine lv_iadd hx hb dX1_ask_115 ?_
    refine lv_goto (tgt := 120) hx hb dX1_ask_116 (by decide) ?_
    exact wX1_ask_b120 C hr hH hf (lv_sub hl [] rfl)
set_option maxHeartbeats 4000000 in
set_option maxRecDepth 100000 in
theorem c_X1_ask {l : Launch} {g : GD} {h : PH} {a0 : Nat} {x1 : Int32} {x2 : Int32} {h' : PH} (hf : mX1_ask h a0 x1 x2 = some h') : Met l yX1_ask (Cond.code yX1_ask cX1_ask 3 (none) :: TB) (rmD 4 0 0) (PcH g [.ref (gB g + a0), .int x1, .int x2] h) (QcV g h') 0 0 (aB g) := by
  refine Met.ofW (cc := cX1_ask) (maxL := 3) (ret := none) (by decide) rfl ?_
  intro p e s m args below meth c s₁ B hml hv
  obtain ⟨rfl, hH0, hkk0⟩ := hv
  have C : CT g RX1 cX1_ask 3 (Cond.code yX1_ask cX1_ask 3 (none) :: TB) p s m _ meth c := pg_ct (Tw := []) B hml hH0 hkk0
  have hr := B.returns
  have hH : HS g s s.heap [] h := ⟨hH0, va_S.rf⟩
  have hl := lv_entry ([.ref (gB g + a0), .int x1, .int x2]) (n := 3) (Nat.le_of_ble_eq_true rfl)
  rw [lg_entry_eq]
  generalize (lg_sl ([.ref (gB g + a0), .int x1, .int x2]) ++ List.replicate (3 - (lg_sl ([.ref (gB g + a0), .int x1, .int x2])).length) Slot.unset).toArray = ls at hl ⊢
  have hl : lv_has ls 3 [(0, .ref (gB g + a0)), (1, .int x1), (2, .int x2)] := hl
  show W p l e (rmD 4 0 0) _ _ _ _ _ _ _ _ _ _ _ _
  unfold mX1_ask at hf
  obtain ⟨hO, hf⟩ := oO_sp hf
  obtain ⟨⟨hx, hb, hml, hown, hts⟩, htb, hlk, hkk, hbs⟩ := id C
  refine lv_aload_n hx hb dX1_ask_0 rfl (lv_at hl 0 rfl) ?_
  refine lv_iconst (v := (-1 : Int32)) hx hb dX1_ask_1 (by decide) ?_
  refine pg_pI C hH fl_X1_118 fm_1_7 hf dX1_ask_2 (fun H locs h2 hH hf => ?_)
  refine lv_iload_n hx hb dX1_ask_5 rfl (lv_at hl 2 rfl) ?_
  refine lv_iconst (v := (1 : Int32)) hx hb dX1_ask_6 (by decide) ?_
  refine lv_icmp_ne (tgt := 34) hx hb dX1_ask_7 (by decide) (fun cn => ?_) (fun cn => ?_)
  · have hf := (if_neg cn).symm.trans hf
    refine lv_iload_n hx hb dX1_ask_34 rfl (lv_at hl 2 rfl) ?_
    refine lv_iconst (v := (4 : Int32)) hx hb dX1_ask_35 (by decide) ?_
    refine lv_icmp_ne (tgt := 67) hx hb dX1_ask_36 (by decide) (fun cn => ?_) (fun cn => ?_)
    · have hf := (if_neg cn).symm.trans hf
      refine lv_iload_n hx hb dX1_ask_67 rfl (lv_at hl 2 rfl) ?_
      refine lv_iconst (v := (5 : Int32)) hx hb dX1_ask_68 (by decide) ?_
      refine lv_icmp_ne (tgt := 87) hx hb dX1_ask_69 (by decide) (fun cn => ?_) (fun cn => ?_)
      · have hf := (if_neg cn).symm.trans hf
        refine lv_aload_n hx hb dX1_ask_87 rfl (lv_at hl 0 rfl) ?_
        refine lv_iload_n hx hb dX1_ask_88 rfl (lv_at hl 1 rfl) ?_
        refine lv_aload_n hx hb dX1_ask_89 rfl (lv_at hl 0 rfl) ?_
        refine lv_iload_n hx hb dX1_ask_90 rfl (lv_at hl 1 rfl) ?_
        refine lv_iload_n hx hb dX1_ask_91 rfl (lv_at hl 2 rfl) ?_
        refine pg_Vi (As := [.int x1, .int x2]) C hH mi_X1_sourcesFor vl_X1_131 (q := (RX1, TX1, 11)) (ci := 1) rfl rfl hf (fun _ e1 => (oO_sp e1).1) (fun _ _ e1 => c_X1_sourcesFor e1) rfl rfl hl.1 (Nat.le_of_ble_eq_true rfl) ⟨Nat.le_of_ble_eq_true rfl, Nat.le_of_ble_eq_true rfl⟩ ⟨Nat.zero_le _, Nat.zero_le _⟩ dX1_ask_92 (fun H locs v92 h92 hH hf => ?_)
        refine pg_Vv (As := [.int x1, .int v92]) C hH mi_X1_bringLeast vl_X1_135 (q := (RX1, TX1, 11)) (ci := 1) rfl rfl hf (fun _ e1 => (oO_sp e1).1) (fun _ e1 => c_X1_bringLeast e1) rfl rfl hl.1 (Nat.le_of_ble_eq_true rfl) ⟨Nat.le_of_ble_eq_true rfl, Nat.le_of_ble_eq_true rfl⟩ ⟨Nat.zero_le _, Nat.zero_le _⟩ dX1_ask_95 (fun H locs h95 hH hf => ?_)
        exact wX1_ask_b98 C hr hH hf (lv_sub hl [0, 2] rfl)
      · have hf := (if_pos cn).symm.trans hf
        refine lv_aload_n hx hb dX1_ask_72 rfl (lv_at hl 0 rfl) ?_
        refine lv_aload_n hx hb dX1_ask_73 rfl (lv_at hl 0 rfl) ?_
        refine pg_gR C hH fl_X1_26 hf dX1_ask_74 (fun v74 hf => ?_)
        refine lv_iload_n hx hb dX1_ask_77 rfl (lv_at hl 1 rfl) ?_
        refine pg_Vl (As := [.int x1]) C hH mi_X2_madeWorth vl_X1_79 (q := (RX2, TX2, 8)) (ci := 2) rfl rfl hf (fun _ e1 => (oO_sp e1).1) (fun _ _ e1 => c_X2_madeWorth e1) rfl rfl hl.1 (Nat.le_of_ble_eq_true rfl) ⟨Nat.le_of_ble_eq_true rfl, Nat.le_of_ble_eq_true rfl⟩ ⟨Nat.zero_le _, Nat.zero_le _⟩ dX1_ask_78 (fun H locs v78 h78 hH hf => ?_)
        refine pg_pL C hH fl_X1_121 fm_1_6 hf dX1_ask_81 (fun H locs h81 hH hf => ?_)
        refine lv_goto (tgt := 98) hx hb dX1_ask_84 (by decide) ?_
        exact wX1_ask_b98 C hr hH hf (lv_sub hl [0, 2] rfl)
    · have hf := (if_pos cn).symm.trans hf
      refine lv_aload_n hx hb dX1_ask_39 rfl (lv_at hl 0 rfl) ?_
      refine lv_aload_n hx hb dX1_ask_40 rfl (lv_at hl 0 rfl) ?_
      refine pg_gR C hH fl_X1_26 hf dX1_ask_41 (fun v41 hf => ?_)
      refine pg_gR C hH fl_X1_128 hf dX1_ask_44 (fun v44 hf => ?_)
      refine lv_iload_n hx hb dX1_ask_47 rfl (lv_at hl 1 rfl) ?_
      refine pg_aI C hH hf dX1_ask_48 (fun v48 hf => ?_)
      refine pg_pI C hH fl_X1_118 fm_1_7 hf dX1_ask_49 (fun H locs h49 hH hf => ?_)
      refine lv_aload_n hx hb dX1_ask_52 rfl (lv_at hl 0 rfl) ?_
      refine lv_aload_n hx hb dX1_ask_53 rfl (lv_at hl 0 rfl) ?_
      refine pg_gR C hH fl_X1_26 hf dX1_ask_54 (fun v54 hf => ?_)
      refine lv_iload_n hx hb dX1_ask_57 rfl (lv_at hl 1 rfl) ?_
      refine pg_Vl (As := [.int x1]) C hH mi_X2_resoldWorth vl_X1_75 (q := (RX2, TX2, 8)) (ci := 2) rfl rfl hf (fun _ e1 => (oO_sp e1).1) (fun _ _ e1 => c_X2_resoldWorth e1) rfl rfl hl.1 (Nat.le_of_ble_eq_true rfl) ⟨Nat.le_of_ble_eq_true rfl, Nat.le_of_ble_eq_true rfl⟩ ⟨Nat.zero_le _, Nat.zero_le _⟩ dX1_ask_58 (fun H locs v58 h58 hH hf => ?_)
      refine pg_pL C hH fl_X1_121 fm_1_6 hf dX1_ask_61 (fun H locs h61 hH hf => ?_)
      refine lv_goto (tgt := 98) hx hb dX1_ask_64 (by decide) ?_
      exact wX1_ask_b98 C hr hH hf (lv_sub hl [0, 2] rfl)
  · have hf := (if_pos cn).symm.trans hf
    refine lv_aload_n hx hb dX1_ask_10 rfl (lv_at hl 0 rfl) ?_
    refine lv_aload_n hx hb dX1_ask_11 rfl (lv_at hl 0 rfl) ?_
    refine pg_gR C hH fl_X1_26 hf dX1_ask_12 (fun v12 hf => ?_)
    refine pg_gR C hH fl_X1_93 hf dX1_ask_15 (fun v15 hf => ?_)
    refine lv_iload_n hx hb dX1_ask_18 rfl (lv_at hl 1 rfl) ?_
    refine pg_aL C hH hf dX1_ask_19 (fun v19 hf => ?_)
    refine pg_pL C hH fl_X1_121 fm_1_6 hf dX1_ask_20 (fun H locs h20 hH hf => ?_)
    refine lv_aload_n hx hb dX1_ask_23 rfl (lv_at hl 0 rfl) ?_
    refine lv_aload_n hx hb dX1_ask_24 rfl (lv_at hl 0 rfl) ?_
    refine pg_gR C hH fl_X1_9 hf dX1_ask_25 (fun v25 hf => ?_)
    refine lv_iload_n hx hb dX1_ask_28 rfl (lv_at hl 1 rfl) ?_
    refine pg_aI C hH hf dX1_ask_29 (fun v29 hf => ?_)
    refine pg_pI C hH fl_X1_125 fm_1_5 hf dX1_ask_30 (fun H locs h30 hH hf => ?_)
    exact pg_vret C hr hH hf dX1_ask_33
set_option maxHeartbeats 4000000 in
set_option maxRecDepth 100000 in
theorem wX1_climb_b35 {r12 : PH → Nat → Int32 → Int32 → Int32 → Option (PH)} {h' : PH} (C : CT g RX1 cX1_climb 5 (Cond.code yX1_climb cX1_climb 5 (none) :: TB) p s m args meth c) (hr : meth.sig.returnType = none) (k12 : ∀ {h : PH} {a0 : Nat} {x1 : Int32} {x2 : Int32} {x3 : Int32} {H : Heap} {locs : List Loc} {ls : Array Slot}, HS g s H locs h → r12 h a0 x1 x2 x3 = some h' → lv_has ls 5 [(0, .ref (gB g + a0)), (1, .int x1), (2, .int x2), (3, .int x3)] → W p l e (rmD 5 0 0) s m args below meth c H locs 0 0 (MQ below (QcV g h') args s 0 0 (aB g)) (F0 m 12 ls [])) {h : PH} {a0 : Nat} {x1 : Int32} {x2 : Int32} {x3 : Int32} {s0 : Int32} {H : Heap} {locs : List Loc} {ls : Array Slot} (hH : HS g s H locs h) (hf : mX1_climb_b35 r12 h a0 x1 x2 x3 s0 = some h') (hl : lv_has ls 5 [(0, .ref (gB g + a0)), (1, .int x1), (2, .int x2), (3, .int x3)]) : W p l e (rmD 5 0 0) s m args below meth c H locs 0 0 (MQ below (QcV g h') args s 0 0 (aB g)) (F0 m 35 ls [.int s0]) := by
  obtain ⟨⟨hx, hb, hml, hown, hts⟩, htb, hlk, hkk, hbs⟩ := id C
  unfold mX1_climb_b35 at hf
  refine lv_istore (lv' := [(4, .int s0), (0, .ref (gB g + a0)), (1, .int x1), (2, .int x2), (3, .int x3)]) hx hb dX1_climb_35 hl (by decide) rfl (fun ls hl => ?_)
  refine lv_aload_n hx hb dX1_climb_37 rfl (lv_at hl 1 rfl) ?_
  refine lv_iload_n hx hb dX1_climb_38 rfl (lv_at hl 2 rfl) ?_
  refine lv_iload hx hb dX1_climb_39 (lv_at hl 0 rfl) ?_
  refine pg_Vv (As := [.int x1, .int s0]) C hH mi_X1_ask vl_X1_161 (q := (RX1, TX1, 11)) (ci := 1) rfl rfl hf (fun _ e1 => (oO_sp e1).1) (fun _ e1 => c_X1_ask e1) rfl rfl hl.1 (Nat.le_of_ble_eq_true rfl) ⟨Nat.le_of_ble_eq_true rfl, Nat.le_of_ble_eq_true rfl⟩ ⟨Nat.zero_le _, Nat.zero_le _⟩ dX1_climb_41 (fun H locs h41 hH hf => ?_)
  refine lv_aload_n hx hb dX1_climb_44 rfl (lv_at hl 1 rfl) ?_
  refine pg_gI C hH fl_X1_125 hf dX1_climb_45 (fun v45 hf => ?_)
  refine lv_if_ne (tgt := 58) hx hb dX1_climb_48 (by decide) (fun cn => ?_) (fun cn => ?_)
  · have hf := (if_neg cn).symm.trans hf
    refine lv_aload_n hx hb dX1_climb_58 rfl (lv_at hl 1 rfl) ?_
    refine pg_gR C hH fl_X1_19 hf dX1_climb_59 (fun v59 hf => ?_)
    refine lv_aload_n hx hb dX1_climb_62 rfl (lv_at hl 1 rfl) ?_
    refine pg_gI C hH fl_X1_149 hf dX1_climb_63 (fun v63 hf => ?_)
    refine lv_aload_n hx hb dX1_climb_66 rfl (lv_at hl 1 rfl) ?_
    refine pg_gI C hH fl_X1_125 hf dX1_climb_67 (fun v67 hf => ?_)
    refine pg_sI C hH hf dX1_climb_70 (fun H locs h70 hH hf => ?_)
    refine lv_aload_n hx hb dX1_climb_71 rfl (lv_at hl 1 rfl) ?_
    refine lv_dup hx hb dX1_climb_72 rfl ?_
    refine pg_gI C hH fl_X1_149 hf dX1_climb_73 (fun v73 hf => ?_)
    refine lv_iconst (v := (1 : Int32)) hx hb dX1_climb_76 (by decide) ?_
    refine lv_iadd hx hb dX1_climb_77 ?_
    refine pg_pI C hH fl_X1_149 fm_1_9 hf dX1_climb_78 (fun H locs h78 hH hf => ?_)
    refine lv_iinc (v := (x3 + 1)) (lv' := [(3, .int (x3 + 1)), (4, .int s0), (0, .ref (gB g + a0)), (1, .int x1), (2, .int x2)]) hx hb dX1_climb_81 hl (k := 4) rfl rfl (by decide) rfl (fun ls hl => ?_)
    refine lv_goto (tgt := 12) hx hb dX1_climb_84 (by decide) ?_
    exact k12 hH hf (lv_sub hl [2, 3, 4, 0] rfl)
  · have hf := (if_pos cn).symm.trans hf
    refine lv_aload_n hx hb dX1_climb_51 rfl (lv_at hl 1 rfl) ?_
    refine lv_iload hx hb dX1_climb_52 (lv_at hl 0 rfl) ?_
    refine pg_pI C hH fl_X1_152 fm_1_10 hf dX1_climb_54 (fun H locs h54 hH hf => ?_)
    exact pg_vret C hr hH hf dX1_climb_57
set_option maxHeartbeats 4000000 in
set_option maxRecDepth 100000 in
theorem wX1_climb_b12 {r12 : PH → Nat → Int32 → Int32 → Int32 → Option (PH)} {h' : PH} (C : CT g RX1 cX1_climb 5 (Cond.code yX1_climb cX1_climb 5 (none) :: TB) p s m args meth c) (hr : meth.sig.returnType = none) (k12 : ∀ {h : PH} {a0 : Nat} {x1 : Int32} {x2 : Int32} {x3 : Int32} {H : Heap} {locs : List Loc} {ls : Array Slot}, HS g s H locs h → r12 h a0 x1 x2 x3 = some h' → lv_has ls 5 [(0, .ref (gB g + a0)), (1, .int x1), (2, .int x2), (3, .int x3)] → W p l e (rmD 5 0 0) s m args below meth c H locs 0 0 (MQ below (QcV g h') args s 0 0 (aB g)) (F0 m 12 ls [])) {h : PH} {a0 : Nat} {x1 : Int32} {x2 : Int32} {x3 : Int32} {H : Heap} {locs : List Loc} {ls : Array Slot} (hH : HS g s H locs h) (hf : mX1_climb_b12 r12 h a0 x1 x2 x3 = some h') (hl : lv_has ls 5 [(0, .ref (gB g + a0)), (1, .int x1), (2, .int x2), (3, .int x3)]) : W p l e (rmD 5 0 0) s m args below meth c H locs 0 0 (MQ below (QcV g h') args s 0 0 (aB g)) (F0 m 12 ls []) := by
  obtain ⟨⟨hx, hb, hml, hown, hts⟩, htb, hlk, hkk, hbs⟩ := id C
  unfold mX1_climb_b12 at hf
  refine lv_iload_n hx hb dX1_climb_12 rfl (lv_at hl 3 rfl) ?_
  refine lv_bipush (v := (6 : Int32)) hx hb dX1_climb_13 (by decide) ?_
  refine lv_icmp_ge (tgt := 87) hx hb dX1_climb_15 (by decide) (fun cn => ?_) (fun cn => ?_)
  · have hf := (if_pos cn).symm.trans hf
    exact pg_vret C hr hH hf dX1_climb_87
  · have hf := (if_neg cn).symm.trans hf
    refine lv_iload_n hx hb dX1_climb_18 rfl (lv_at hl 2 rfl) ?_
    refine lv_if_eq (tgt := 30) hx hb dX1_climb_19 (by decide) (fun cn => ?_) (fun cn => ?_)
    · have hf := (if_pos cn).symm.trans hf
      refine pg_gsN 3 rfl (List.mem_of_getElem? (i := 4) rfl) C hH dX1_climb_30 ?_
      refine lv_iload_n hx hb dX1_climb_33 rfl (lv_at hl 3 rfl) ?_
      refine pg_tI C hH hf dX1_climb_34 (fun v34 hf => ?_)
      exact wX1_climb_b35 C hr k12 hH hf (lv_sub hl [0, 1, 2, 3] rfl)
    · have hf := (if_neg cn).symm.trans hf
      refine pg_gsN 4 rfl (List.mem_of_getElem? (i := 3) rfl) C hH dX1_climb_22 ?_
      refine lv_iload_n hx hb dX1_climb_25 rfl (lv_at hl 3 rfl) ?_
      refine pg_tI C hH hf dX1_climb_26 (fun v26 hf => ?_)
      refine lv_goto (tgt := 35) hx hb dX1_climb_27 (by decide) ?_
      exact wX1_climb_b35 C hr k12 hH hf (lv_sub hl [0, 1, 2, 3] rfl)
set_option maxHeartbeats 4000000 in
set_option maxRecDepth 100000 in
theorem wX1_climb_L12 {h' : PH} (C : CT g RX1 cX1_climb 5 (Cond.code yX1_climb cX1_climb 5 (none) :: TB) p s m args meth c) (hr : meth.sig.returnType = none) : ∀ (n : Nat) {h : PH} {a0 : Nat} {x1 : Int32} {x2 : Int32} {x3 : Int32} {H : Heap} {locs : List Loc} {ls : Array Slot}, HS g s H locs h → mX1_climb_L12 n h a0 x1 x2 x3 = some h' → lv_has ls 5 [(0, .ref (gB g + a0)), (1, .int x1), (2, .int x2), (3, .int x3)] → W p l e (rmD 5 0 0) s m args below meth c H locs 0 0 (MQ below (QcV g h') args s 0 0 (aB g)) (F0 m 12 ls []) := by
  intro n
  induction n with
  | zero =>
    intro h a0 x1 x2 x3 H locs ls hH hf hl
    exact absurd hf (by intro z; cases z)
  | succ n ih =>
    intro h a0 x1 x2 x3 H locs ls hH hf hl
    have hf : mX1_climb_b12 (mX1_climb_L12 n) h a0 x1 x2 x3 = some h' := hf
    exact wX1_climb_b12 C hr (fun a b c => ih a b c) hH hf hl
set_option maxHeartbeats 4000000 in
set_option maxRecDepth 100000 in
theorem c_X1_climb {l : Launch} {g : GD} {h : PH} {a0 : Nat} {x1 : Int32} {x2 : Int32} {h' : PH} (hf : mX1_climb h a0 x1 x2 = some h') : Met l yX1_climb (Cond.code yX1_climb cX1_climb 5 (none) :: TB) (rmD 5 0 0) (PcH g [.ref (gB g + a0), .int x1, .int x2] h) (QcV g h') 0 0 (aB g) := by
  refine Met.ofW (cc := cX1_climb) (maxL := 5) (ret := none) (by decide) rfl ?_
  intro p e s m args below meth c s₁ B hml hv
  obtain ⟨rfl, hH0, hkk0⟩ := hv
  have C : CT g RX1 cX1_climb 5 (Cond.code yX1_climb cX1_climb 5 (none) :: TB) p s m _ meth c := pg_ct (Tw := []) B hml hH0 hkk0
  have hr := B.returns
  have hH : HS g s s.heap [] h := ⟨hH0, va_S.rf⟩
  have hl := lv_entry ([.ref (gB g + a0), .int x1, .int x2]) (n := 5) (Nat.le_of_ble_eq_true rfl)
  rw [lg_entry_eq]
  generalize (lg_sl ([.ref (gB g + a0), .int x1, .int x2]) ++ List.replicate (5 - (lg_sl ([.ref (gB g + a0), .int x1, .int x2])).length) Slot.unset).toArray = ls at hl ⊢
  have hl : lv_has ls 5 [(0, .ref (gB g + a0)), (1, .int x1), (2, .int x2)] := hl
  show W p l e (rmD 5 0 0) _ _ _ _ _ _ _ _ _ _ _ _
  unfold mX1_climb at hf
  obtain ⟨hO, hf⟩ := oO_sp hf
  obtain ⟨⟨hx, hb, hml, hown, hts⟩, htb, hlk, hkk, hbs⟩ := id C
  refine lv_aload_n hx hb dX1_climb_0 rfl (lv_at hl 0 rfl) ?_
  refine lv_iconst (v := (0 : Int32)) hx hb dX1_climb_1 (by decide) ?_
  refine pg_pI C hH fl_X1_149 fm_1_9 hf dX1_climb_2 (fun H locs h2 hH hf => ?_)
  refine lv_aload_n hx hb dX1_climb_5 rfl (lv_at hl 0 rfl) ?_
  refine lv_iconst (v := (0 : Int32)) hx hb dX1_climb_6 (by decide) ?_
  refine pg_pI C hH fl_X1_152 fm_1_10 hf dX1_climb_7 (fun H locs h7 hH hf => ?_)
  refine lv_iconst (v := (0 : Int32)) hx hb dX1_climb_10 (by decide) ?_
  refine lv_istore_n (lv' := [(3, .int (0 : Int32)), (0, .ref (gB g + a0)), (1, .int x1), (2, .int x2)]) hx hb dX1_climb_11 rfl hl (by decide) rfl (fun ls hl => ?_)
  exact wX1_climb_L12 C hr FU hH hf (lv_sub hl [1, 2, 3, 0] rfl)
set_option maxHeartbeats 4000000 in
set_option maxRecDepth 100000 in
theorem c_X1_answer {l : Launch} {g : GD} {h : PH} {a0 : Nat} {r : Int64} {h' : PH} (hf : mX1_answer h a0 = some (r, h')) : Met l yX1_answer (Cond.code yX1_answer cX1_answer 1 (some .long) :: TB) (rmD 0 0 0) (PcH g [.ref (gB g + a0)] h) (QcL g r h') 0 0 (aB g) := by
  refine Met.ofW (cc := cX1_answer) (maxL := 1) (ret := some .long) (by decide) rfl ?_
  intro p e s m args below meth c s₁ B hml hv
  obtain ⟨rfl, hH0, hkk0⟩ := hv
  have C : CT g RX1 cX1_answer 1 (Cond.code yX1_answer cX1_answer 1 (some .long) :: TB) p s m _ meth c := pg_ct (Tw := []) B hml hH0 hkk0
  have hr := B.returns
  have hH : HS g s s.heap [] h := ⟨hH0, va_S.rf⟩
  have hl := lv_entry ([.ref (gB g + a0)]) (n := 1) (Nat.le_of_ble_eq_true rfl)
  rw [lg_entry_eq]
  generalize (lg_sl ([.ref (gB g + a0)]) ++ List.replicate (1 - (lg_sl ([.ref (gB g + a0)])).length) Slot.unset).toArray = ls at hl ⊢
  have hl : lv_has ls 1 [(0, .ref (gB g + a0))] := hl
  show W p l e (rmD 0 0 0) _ _ _ _ _ _ _ _ _ _ _ _
  unfold mX1_answer at hf
  obtain ⟨hO, hf⟩ := oO_sp hf
  obtain ⟨⟨hx, hb, hml, hown, hts⟩, htb, hlk, hkk, hbs⟩ := id C
  refine lv_aload_n hx hb dX1_answer_0 rfl (lv_at hl 0 rfl) ?_
  refine pg_gI C hH fl_X1_152 hf dX1_answer_1 (fun v1 hf => ?_)
  refine lv_if_ne (tgt := 13) hx hb dX1_answer_4 (by decide) (fun cn => ?_) (fun cn => ?_)
  · have hf := (if_neg cn).symm.trans hf
    refine lv_aload_n hx hb dX1_answer_13 rfl (lv_at hl 0 rfl) ?_
    refine pg_gL C hH fl_X1_121 hf dX1_answer_14 (fun v14 hf => ?_)
    exact pg_lret C hr hH hf dX1_answer_17
  · have hf := (if_pos cn).symm.trans hf
    refine lv_ldc2 (v := (-2 : Int64)) hx hb hown (hts _ (htb _ kl_X1_164)) dX1_answer_7 ?_
    refine lv_goto (tgt := 17) hx hb dX1_answer_10 (by decide) ?_
    exact pg_lret C hr hH hf dX1_answer_17
set_option maxHeartbeats 4000000 in
set_option maxRecDepth 100000 in
theorem c_X2_init {l : Launch} {g : GD} {h : PH} {a0 : Nat} {a1 : Nat} {h' : PH} (hf : mX2_init h a0 a1 = some h') : Met l yX2_init (Cond.code yX2_init cX2_init 2 (none) :: TB) (rmD 1 10 90) (PcH g [.ref (gB g + a0), .ref (gB g + a1)] h) (QcV g h') 10 90 (aB g) := by
  refine Met.ofW (cc := cX2_init) (maxL := 2) (ret := none) (by decide) rfl ?_
  intro p e s m args below meth c s₁ B hml hv
  obtain ⟨rfl, hH0, hkk0⟩ := hv
  have C : CT g RX2 cX2_init 2 (Cond.code yX2_init cX2_init 2 (none) :: TB) p s m _ meth c := pg_ct (Tw := []) B hml hH0 hkk0
  have hr := B.returns
  have hH : HS g s s.heap [] h := ⟨hH0, va_S.rf⟩
  have hl := lv_entry ([.ref (gB g + a0), .ref (gB g + a1)]) (n := 2) (Nat.le_of_ble_eq_true rfl)
  rw [lg_entry_eq]
  generalize (lg_sl ([.ref (gB g + a0), .ref (gB g + a1)]) ++ List.replicate (2 - (lg_sl ([.ref (gB g + a0), .ref (gB g + a1)])).length) Slot.unset).toArray = ls at hl ⊢
  have hl : lv_has ls 2 [(0, .ref (gB g + a0)), (1, .ref (gB g + a1))] := hl
  show W p l e (rmD 1 10 90) _ _ _ _ _ _ _ _ _ _ _ _
  unfold mX2_init at hf
  obtain ⟨hO, hf⟩ := oO_sp hf
  have hin : meth.name = "<init>" := (name_of_methodNamed B.named B.method).1
  obtain ⟨⟨hx, hb, hml, hown, hts⟩, htb, hlk, hkk, hbs⟩ := id C
  refine lv_aload_n hx hb dX2_init_0 rfl (lv_at hl 0 rfl) ?_
  refine pg_obj C oi_X2_3 hl.1 (Nat.le_of_ble_eq_true rfl) (Nat.le_of_ble_eq_true rfl) dX2_init_1 ?_
  refine lv_aload_n hx hb dX2_init_4 rfl (lv_at hl 0 rfl) ?_
  refine lv_bipush (v := (6 : Int32)) hx hb dX2_init_5 (by decide) ?_
  refine pg_newI (N' := 6) C hH ar_I hf (by decide) (by decide) (Nat.le_of_ble_eq_true rfl) (Nat.le_of_ble_eq_true rfl) (Nat.le_of_ble_eq_true rfl) dX2_init_7 (fun H n7_0 h7_0 hH hf => ?_)
  refine W.widen (k := 1) (n := 6) (Nat.le_of_ble_eq_true rfl) (Nat.le_of_ble_eq_true rfl) ?_
  refine pg_pR C hin hH fl_X2_9 ff_2_1 rfl rfl hf dX2_init_9 (fun H locs h9_1 hH hf => ?_)
  refine lv_aload_n hx hb dX2_init_12 rfl (lv_at hl 0 rfl) ?_
  refine lv_bipush (v := (10 : Int32)) hx hb dX2_init_13 (by decide) ?_
  refine pg_newZ (N' := 10) C hH ar_Z hf (by decide) (by decide) (Nat.le_of_ble_eq_true rfl) (Nat.le_of_ble_eq_true rfl) (Nat.le_of_ble_eq_true rfl) dX2_init_15 (fun H n15_2 h15_2 hH hf => ?_)
  refine W.widen (k := 2) (n := 16) (Nat.le_of_ble_eq_true rfl) (Nat.le_of_ble_eq_true rfl) ?_
  refine pg_pR C hin hH fl_X2_15 ff_2_2 rfl rfl hf dX2_init_17 (fun H locs h17_3 hH hf => ?_)
  refine lv_aload_n hx hb dX2_init_20 rfl (lv_at hl 0 rfl) ?_
  refine lv_iconst (v := (-1 : Int32)) hx hb dX2_init_21 (by decide) ?_
  refine pg_pI C hH fl_X2_19 fm_2_3 hf dX2_init_22 (fun H locs h22 hH hf => ?_)
  refine lv_aload_n hx hb dX2_init_25 rfl (lv_at hl 0 rfl) ?_
  refine lv_bipush (v := (10 : Int32)) hx hb dX2_init_26 (by decide) ?_
  refine pg_newI (N' := 10) C hH ar_I hf (by decide) (by decide) (Nat.le_of_ble_eq_true rfl) (Nat.le_of_ble_eq_true rfl) (Nat.le_of_ble_eq_true rfl) dX2_init_28 (fun H n28_4 h28_4 hH hf => ?_)
  refine W.widen (k := 3) (n := 26) (Nat.le_of_ble_eq_true rfl) (Nat.le_of_ble_eq_true rfl) ?_
  refine pg_pR C hin hH fl_X2_23 ff_2_4 rfl rfl hf dX2_init_30 (fun H locs h30_5 hH hf => ?_)
  refine lv_aload_n hx hb dX2_init_33 rfl (lv_at hl 0 rfl) ?_
  refine lv_iconst (v := (4 : Int32)) hx hb dX2_init_34 (by decide) ?_
  refine lv_bipush (v := (10 : Int32)) hx hb dX2_init_35 (by decide) ?_
  refine pg_mna (N' := 4) (K' := 10) C hH mw_X2_26 ar_I hf (by decide) (by decide) (by decide) (by decide) (Nat.le_of_ble_eq_true rfl) (Nat.le_of_ble_eq_true rfl) (Nat.le_of_ble_eq_true rfl) (Nat.le_of_ble_eq_true rfl) (Nat.le_of_ble_eq_true rfl) dX2_init_37 (fun H n37_6 h37_6 hH hf => ?_)
  refine W.widen (k := 8) (n := 70) (Nat.le_of_ble_eq_true rfl) (Nat.le_of_ble_eq_true rfl) ?_
  refine pg_pR C hin hH fl_X2_28 ff_2_5 rfl rfl hf dX2_init_41 (fun H locs h41_7 hH hf => ?_)
  refine lv_aload_n hx hb dX2_init_44 rfl (lv_at hl 0 rfl) ?_
  refine lv_bipush (v := (10 : Int32)) hx hb dX2_init_45 (by decide) ?_
  refine pg_newL (N' := 10) C hH ar_L hf (by decide) (by decide) (Nat.le_of_ble_eq_true rfl) (Nat.le_of_ble_eq_true rfl) (Nat.le_of_ble_eq_true rfl) dX2_init_47 (fun H n47_8 h47_8 hH hf => ?_)
  refine W.widen (k := 9) (n := 80) (Nat.le_of_ble_eq_true rfl) (Nat.le_of_ble_eq_true rfl) ?_
  refine pg_pR C hin hH fl_X2_31 ff_2_6 rfl rfl hf dX2_init_49 (fun H locs h49_9 hH hf => ?_)
  refine lv_aload_n hx hb dX2_init_52 rfl (lv_at hl 0 rfl) ?_
  refine lv_bipush (v := (10 : Int32)) hx hb dX2_init_53 (by decide) ?_
  refine pg_newI (N' := 10) C hH ar_I hf (by decide) (by decide) (Nat.le_of_ble_eq_true rfl) (Nat.le_of_ble_eq_true rfl) (Nat.le_of_ble_eq_true rfl) dX2_init_55 (fun H n55_10 h55_10 hH hf => ?_)
  refine W.widen (k := 10) (n := 90) (Nat.le_of_ble_eq_true rfl) (Nat.le_of_ble_eq_true rfl) ?_
  refine pg_pR C hin hH fl_X2_35 ff_2_7 rfl rfl hf dX2_init_57 (fun H locs h57_11 hH hf => ?_)
  refine lv_aload_n hx hb dX2_init_60 rfl (lv_at hl 0 rfl) ?_
  refine lv_aload_n hx hb dX2_init_61 rfl (lv_at hl 1 rfl) ?_
  refine pg_pR C hin hH fl_X2_38 ff_2_0 rfl rfl hf dX2_init_62 (fun H locs h62_12 hH hf => ?_)
  exact pg_vret C hr hH hf dX2_init_65
set_option maxHeartbeats 4000000 in
set_option maxRecDepth 100000 in
theorem c_X3_init {l : Launch} {g : GD} {h : PH} {a0 : Nat} {h' : PH} (hf : mX3_init h a0 = some h') : Met l yX3_init (Cond.code yX3_init cX3_init 1 (none) :: TB) (rmD 1 1 480) (PcH g [.ref (gB g + a0)] h) (QcV g h') 1 480 (aB g) := by
  refine Met.ofW (cc := cX3_init) (maxL := 1) (ret := none) (by decide) rfl ?_
  intro p e s m args below meth c s₁ B hml hv
  obtain ⟨rfl, hH0, hkk0⟩ := hv
  have C : CT g RX3 cX3_init 1 (Cond.code yX3_init cX3_init 1 (none) :: TB) p s m _ meth c := pg_ct (Tw := []) B hml hH0 hkk0
  have hr := B.returns
  have hH : HS g s s.heap [] h := ⟨hH0, va_S.rf⟩
  have hl := lv_entry ([.ref (gB g + a0)]) (n := 1) (Nat.le_of_ble_eq_true rfl)
  rw [lg_entry_eq]
  generalize (lg_sl ([.ref (gB g + a0)]) ++ List.replicate (1 - (lg_sl ([.ref (gB g + a0)])).length) Slot.unset).toArray = ls at hl ⊢
  have hl : lv_has ls 1 [(0, .ref (gB g + a0))] := hl
  show W p l e (rmD 1 1 480) _ _ _ _ _ _ _ _ _ _ _ _
  unfold mX3_init at hf
  obtain ⟨hO, hf⟩ := oO_sp hf
  have hin : meth.name = "<init>" := (name_of_methodNamed B.named B.method).1
  obtain ⟨⟨hx, hb, hml, hown, hts⟩, htb, hlk, hkk, hbs⟩ := id C
  refine lv_aload_n hx hb dX3_init_0 rfl (lv_at hl 0 rfl) ?_
  refine pg_obj C oi_X3_3 hl.1 (Nat.le_of_ble_eq_true rfl) (Nat.le_of_ble_eq_true rfl) dX3_init_1 ?_
  refine lv_aload_n hx hb dX3_init_4 rfl (lv_at hl 0 rfl) ?_
  refine lv_sipush (v := (480 : Int32)) hx hb dX3_init_5 (by decide) ?_
  refine pg_newB (N' := 480) C hH ar_B hf (by decide) (by decide) (Nat.le_of_ble_eq_true rfl) (Nat.le_of_ble_eq_true rfl) (Nat.le_of_ble_eq_true rfl) dX3_init_8 (fun H n8_0 h8_0 hH hf => ?_)
  refine W.widen (k := 1) (n := 480) (Nat.le_of_ble_eq_true rfl) (Nat.le_of_ble_eq_true rfl) ?_
  refine pg_pR C hin hH fl_X3_11 ff_3_0 rfl rfl hf dX3_init_10 (fun H locs h10_1 hH hf => ?_)
  exact pg_vret C hr hH hf dX3_init_13
set_option maxHeartbeats 4000000 in
set_option maxRecDepth 100000 in
theorem c_X3_add {l : Launch} {g : GD} {h : PH} {a0 : Nat} {x1 : Int32} {h' : PH} (hf : mX3_add h a0 x1 = some h') : Met l yX3_add (Cond.code yX3_add cX3_add 2 (none) :: TB) (rmD 0 0 0) (PcH g [.ref (gB g + a0), .int x1] h) (QcV g h') 0 0 (aB g) := by
  refine Met.ofW (cc := cX3_add) (maxL := 2) (ret := none) (by decide) rfl ?_
  intro p e s m args below meth c s₁ B hml hv
  obtain ⟨rfl, hH0, hkk0⟩ := hv
  have C : CT g RX3 cX3_add 2 (Cond.code yX3_add cX3_add 2 (none) :: TB) p s m _ meth c := pg_ct (Tw := []) B hml hH0 hkk0
  have hr := B.returns
  have hH : HS g s s.heap [] h := ⟨hH0, va_S.rf⟩
  have hl := lv_entry ([.ref (gB g + a0), .int x1]) (n := 2) (Nat.le_of_ble_eq_true rfl)
  rw [lg_entry_eq]
  generalize (lg_sl ([.ref (gB g + a0), .int x1]) ++ List.replicate (2 - (lg_sl ([.ref (gB g + a0), .int x1])).length) Slot.unset).toArray = ls at hl ⊢
  have hl : lv_has ls 2 [(0, .ref (gB g + a0)), (1, .int x1)] := hl
  show W p l e (rmD 0 0 0) _ _ _ _ _ _ _ _ _ _ _ _
  unfold mX3_add at hf
  obtain ⟨hO, hf⟩ := oO_sp hf
  obtain ⟨⟨hx, hb, hml, hown, hts⟩, htb, hlk, hkk, hbs⟩ := id C
  refine lv_aload_n hx hb dX3_add_0 rfl (lv_at hl 0 rfl) ?_
  refine pg_gI C hH fl_X3_15 hf dX3_add_1 (fun v1 hf => ?_)
  refine lv_aload_n hx hb dX3_add_4 rfl (lv_at hl 0 rfl) ?_
  refine pg_gR C hH fl_X3_11 hf dX3_add_5 (fun v5 hf => ?_)
  refine pg_aN C hH (by decide) hf dX3_add_8 (fun v8 hf => ?_)
  refine lv_icmp_ge (tgt := 33) hx hb dX3_add_9 (by decide) (fun cn => ?_) (fun cn => ?_)
  · have hf := (if_pos cn).symm.trans hf
    exact pg_vret C hr hH hf dX3_add_33
  · have hf := (if_neg cn).symm.trans hf
    refine lv_aload_n hx hb dX3_add_12 rfl (lv_at hl 0 rfl) ?_
    refine pg_gR C hH fl_X3_11 hf dX3_add_13 (fun v13 hf => ?_)
    refine lv_aload_n hx hb dX3_add_16 rfl (lv_at hl 0 rfl) ?_
    refine pg_gI C hH fl_X3_15 hf dX3_add_17 (fun v17 hf => ?_)
    refine lv_iload_n hx hb dX3_add_20 rfl (lv_at hl 1 rfl) ?_
    refine lv_i2b (v := (Int8.toInt32 (Int32.toInt8 x1))) hx hb dX3_add_21 rfl ?_
    refine pg_sB C hH hf dX3_add_22 (fun H locs h22 hH hf => ?_)
    refine lv_aload_n hx hb dX3_add_23 rfl (lv_at hl 0 rfl) ?_
    refine lv_dup hx hb dX3_add_24 rfl ?_
    refine pg_gI C hH fl_X3_15 hf dX3_add_25 (fun v25 hf => ?_)
    refine lv_iconst (v := (1 : Int32)) hx hb dX3_add_28 (by decide) ?_
    refine lv_iadd hx hb dX3_add_29 ?_
    refine pg_pI C hH fl_X3_15 fm_3_1 hf dX3_add_30 (fun H locs h30 hH hf => ?_)
    exact pg_vret C hr hH hf dX3_add_33
set_option maxHeartbeats 4000000 in
set_option maxRecDepth 100000 in
theorem wX3_addText_b2 {r2 : PH → Nat → Nat → Int32 → Option (PH)} {h' : PH} (C : CT g RX3 cX3_addText 3 (Cond.code yX3_addText cX3_addText 3 (none) :: TB) p s m args meth c) (hr : meth.sig.returnType = none) (k2 : ∀ {h : PH} {a0 : Nat} {a1 : Nat} {x2 : Int32} {H : Heap} {locs : List Loc} {ls : Array Slot}, HS g s H locs h → r2 h a0 a1 x2 = some h' → lv_has ls 3 [(0, .ref (gB g + a0)), (1, .ref (gK g a1)), (2, .int x2)] → W p l e (rmD 4 0 0) s m args below meth c H locs 0 0 (MQ below (QcV g h') args s 0 0 (aB g)) (F0 m 2 ls [])) {h : PH} {a0 : Nat} {a1 : Nat} {x2 : Int32} {H : Heap} {locs : List Loc} {ls : Array Slot} (hH : HS g s H locs h) (hf : mX3_addText_b2 r2 h a0 a1 x2 = some h') (hl : lv_has ls 3 [(0, .ref (gB g + a0)), (1, .ref (gK g a1)), (2, .int x2)]) : W p l e (rmD 4 0 0) s m args below meth c H locs 0 0 (MQ below (QcV g h') args s 0 0 (aB g)) (F0 m 2 ls []) := by
  obtain ⟨⟨hx, hb, hml, hown, hts⟩, htb, hlk, hkk, hbs⟩ := id C
  unfold mX3_addText_b2 at hf
  refine lv_iload_n hx hb dX3_addText_2 rfl (lv_at hl 2 rfl) ?_
  refine lv_aload_n hx hb dX3_addText_3 rfl (lv_at hl 1 rfl) ?_
  refine pg_kLen C hH vl_X3_19 hf hl.1 (Nat.le_of_ble_eq_true rfl) ⟨Nat.le_of_ble_eq_true rfl, Nat.le_of_ble_eq_true rfl⟩ ⟨Nat.zero_le _, Nat.zero_le _⟩ dX3_addText_4 (fun H locs v4 hH hf => ?_)
  refine lv_icmp_ge (tgt := 25) hx hb dX3_addText_7 (by decide) (fun cn => ?_) (fun cn => ?_)
  · have hf := (if_pos cn).symm.trans hf
    exact pg_vret C hr hH hf dX3_addText_25
  · have hf := (if_neg cn).symm.trans hf
    refine lv_aload_n hx hb dX3_addText_10 rfl (lv_at hl 0 rfl) ?_
    refine lv_aload_n hx hb dX3_addText_11 rfl (lv_at hl 1 rfl) ?_
    refine lv_iload_n hx hb dX3_addText_12 rfl (lv_at hl 2 rfl) ?_
    refine pg_kAt C hH vl_X3_25 hf hl.1 (Nat.le_of_ble_eq_true rfl) ⟨Nat.le_of_ble_eq_true rfl, Nat.le_of_ble_eq_true rfl⟩ ⟨Nat.zero_le _, Nat.zero_le _⟩ dX3_addText_13 (fun H locs v13 hH hf => ?_)
    refine pg_Vv (As := [.int v13]) C hH mi_X3_add vl_X3_29 (q := (RX3, TX3, 2)) (ci := 3) rfl rfl hf (fun _ e1 => (oO_sp e1).1) (fun _ e1 => c_X3_add e1) rfl rfl hl.1 (Nat.le_of_ble_eq_true rfl) ⟨Nat.le_of_ble_eq_true rfl, Nat.le_of_ble_eq_true rfl⟩ ⟨Nat.zero_le _, Nat.zero_le _⟩ dX3_addText_16 (fun H locs h16 hH hf => ?_)
    refine lv_iinc (v := (x2 + 1)) (lv' := [(2, .int (x2 + 1)), (0, .ref (gB g + a0)), (1, .ref (gK g a1))]) hx hb dX3_addText_19 hl (k := 2) rfl rfl (by decide) rfl (fun ls hl => ?_)
    refine lv_goto (tgt := 2) hx hb dX3_addText_22 (by decide) ?_
    exact k2 hH hf (lv_sub hl [1, 2, 0] rfl)
set_option maxHeartbeats 4000000 in
set_option maxRecDepth 100000 in
theorem wX3_addText_L2 {h' : PH} (C : CT g RX3 cX3_addText 3 (Cond.code yX3_addText cX3_addText 3 (none) :: TB) p s m args meth c) (hr : meth.sig.returnType = none) : ∀ (n : Nat) {h : PH} {a0 : Nat} {a1 : Nat} {x2 : Int32} {H : Heap} {locs : List Loc} {ls : Array Slot}, HS g s H locs h → mX3_addText_L2 n h a0 a1 x2 = some h' → lv_has ls 3 [(0, .ref (gB g + a0)), (1, .ref (gK g a1)), (2, .int x2)] → W p l e (rmD 4 0 0) s m args below meth c H locs 0 0 (MQ below (QcV g h') args s 0 0 (aB g)) (F0 m 2 ls []) := by
  intro n
  induction n with
  | zero =>
    intro h a0 a1 x2 H locs ls hH hf hl
    exact absurd hf (by intro z; cases z)
  | succ n ih =>
    intro h a0 a1 x2 H locs ls hH hf hl
    have hf : mX3_addText_b2 (mX3_addText_L2 n) h a0 a1 x2 = some h' := hf
    exact wX3_addText_b2 C hr (fun a b c => ih a b c) hH hf hl
set_option maxHeartbeats 4000000 in
set_option maxRecDepth 100000 in
theorem c_X3_addText {l : Launch} {g : GD} {h : PH} {a0 : Nat} {a1 : Nat} {h' : PH} (hf : mX3_addText h a0 a1 = some h') : Met l yX3_addText (Cond.code yX3_addText cX3_addText 3 (none) :: TB) (rmD 4 0 0) (PcH g [.ref (gB g + a0), .ref (gK g a1)] h) (QcV g h') 0 0 (aB g) := by
  refine Met.ofW (cc := cX3_addText) (maxL := 3) (ret := none) (by decide) rfl ?_
  intro p e s m args below meth c s₁ B hml hv
  obtain ⟨rfl, hH0, hkk0⟩ := hv
  have C : CT g RX3 cX3_addText 3 (Cond.code yX3_addText cX3_addText 3 (none) :: TB) p s m _ meth c := pg_ct (Tw := []) B hml hH0 hkk0
  have hr := B.returns
  have hH : HS g s s.heap [] h := ⟨hH0, va_S.rf⟩
  have hl := lv_entry ([.ref (gB g + a0), .ref (gK g a1)]) (n := 3) (Nat.le_of_ble_eq_true rfl)
  rw [lg_entry_eq]
  generalize (lg_sl ([.ref (gB g + a0), .ref (gK g a1)]) ++ List.replicate (3 - (lg_sl ([.ref (gB g + a0), .ref (gK g a1)])).length) Slot.unset).toArray = ls at hl ⊢
  have hl : lv_has ls 3 [(0, .ref (gB g + a0)), (1, .ref (gK g a1))] := hl
  show W p l e (rmD 4 0 0) _ _ _ _ _ _ _ _ _ _ _ _
  unfold mX3_addText at hf
  obtain ⟨hO, hf⟩ := oO_sp hf
  obtain ⟨⟨hx, hb, hml, hown, hts⟩, htb, hlk, hkk, hbs⟩ := id C
  refine lv_iconst (v := (0 : Int32)) hx hb dX3_addText_0 (by decide) ?_
  refine lv_istore_n (lv' := [(2, .int (0 : Int32)), (0, .ref (gB g + a0)), (1, .ref (gK g a1))]) hx hb dX3_addText_1 rfl hl (by decide) rfl (fun ls hl => ?_)
  exact wX3_addText_L2 C hr FU hH hf (lv_sub hl [1, 2, 0] rfl)
set_option maxHeartbeats 4000000 in
set_option maxRecDepth 100000 in
theorem wX3_addWord_b4 {r4 : PH → Nat → Int64 → Int64 → Option (PH)} {h' : PH} (C : CT g RX3 cX3_addWord 7 (Cond.code yX3_addWord cX3_addWord 7 (none) :: TB) p s m args meth c) (hr : meth.sig.returnType = none) (k4 : ∀ {h : PH} {a0 : Nat} {x1 : Int64} {x3 : Int64} {H : Heap} {locs : List Loc} {ls : Array Slot}, HS g s H locs h → r4 h a0 x1 x3 = some h' → lv_has ls 7 [(0, .ref (gB g + a0)), (1, .long x1), (3, .long x3)] → W p l e (rmD 1 0 0) s m args below meth c H locs 0 0 (MQ below (QcV g h') args s 0 0 (aB g)) (F0 m 4 ls [])) {h : PH} {a0 : Nat} {x1 : Int64} {x3 : Int64} {H : Heap} {locs : List Loc} {ls : Array Slot} (hH : HS g s H locs h) (hf : mX3_addWord_b4 r4 h a0 x1 x3 = some h') (hl : lv_has ls 7 [(0, .ref (gB g + a0)), (1, .long x1), (3, .long x3)]) : W p l e (rmD 1 0 0) s m args below meth c H locs 0 0 (MQ below (QcV g h') args s 0 0 (aB g)) (F0 m 4 ls []) := by
  obtain ⟨⟨hx, hb, hml, hown, hts⟩, htb, hlk, hkk, hbs⟩ := id C
  unfold mX3_addWord_b4 at hf
  refine lv_lload_n hx hb dX3_addWord_4 rfl (lv_at hl 2 rfl) ?_
  refine lv_lconst (v := (0 : Int64)) hx hb dX3_addWord_5 (by decide) ?_
  refine W.lcmp hx hb dX3_addWord_6 ?_
  refine lv_if_le (tgt := 47) hx hb dX3_addWord_7 (by decide) (fun cn => ?_) (fun cn => ?_)
  · have hf := (if_pos ((lg_cmp_le _ _).mp cn)).symm.trans hf
    exact pg_vret C hr hH hf dX3_addWord_47
  · have hf := (if_neg (fun z => cn ((lg_cmp_le _ _).mpr z))).symm.trans hf
    refine lv_lload_n hx hb dX3_addWord_10 rfl (lv_at hl 1 rfl) ?_
    refine lv_lload_n hx hb dX3_addWord_11 rfl (lv_at hl 2 rfl) ?_
    obtain ⟨hz12, hf⟩ := dz_sp hf
    refine lv_ldiv hx hb dX3_addWord_12 hz12 ?_
    refine lv_ldc2 (v := (27 : Int64)) hx hb hown (hts _ (htb _ kl_X3_35)) dX3_addWord_13 ?_
    refine lv_lrem hx hb dX3_addWord_16 (by decide) ?_
    refine lv_lstore (lv' := [(5, .long ((x1 / x3) - (x1 / x3) / (27 : Int64) * (27 : Int64))), (0, .ref (gB g + a0)), (1, .long x1), (3, .long x3)]) hx hb dX3_addWord_17 hl (by decide) rfl (fun ls hl => ?_)
    refine lv_lload hx hb dX3_addWord_19 (lv_at hl 0 rfl) ?_
    refine lv_lconst (v := (0 : Int64)) hx hb dX3_addWord_21 (by decide) ?_
    refine W.lcmp hx hb dX3_addWord_22 ?_
    refine lv_if_le (tgt := 38) hx hb dX3_addWord_23 (by decide) (fun cn => ?_) (fun cn => ?_)
    · have hf := (if_pos ((lg_cmp_le _ _).mp cn)).symm.trans hf
      refine lv_lload_n hx hb dX3_addWord_38 rfl (lv_at hl 3 rfl) ?_
      refine lv_ldc2 (v := (27 : Int64)) hx hb hown (hts _ (htb _ kl_X3_35)) dX3_addWord_39 ?_
      refine lv_ldiv hx hb dX3_addWord_42 (by decide) ?_
      refine lv_lstore_n (lv' := [(3, .long (x3 / (27 : Int64))), (5, .long ((x1 / x3) - (x1 / x3) / (27 : Int64) * (27 : Int64))), (0, .ref (gB g + a0)), (1, .long x1)]) hx hb dX3_addWord_43 rfl hl (by decide) rfl (fun ls hl => ?_)
      refine lv_goto (tgt := 4) hx hb dX3_addWord_44 (by decide) ?_
      exact k4 hH hf (lv_sub hl [2, 3, 0] rfl)
    · have hf := (if_neg (fun z => cn ((lg_cmp_le _ _).mpr z))).symm.trans hf
      refine lv_aload_n hx hb dX3_addWord_26 rfl (lv_at hl 1 rfl) ?_
      refine lv_lload hx hb dX3_addWord_27 (lv_at hl 0 rfl) ?_
      refine lv_l2i (v := (Int64.toInt32 ((x1 / x3) - (x1 / x3) / (27 : Int64) * (27 : Int64)))) hx hb dX3_addWord_29 rfl ?_
      refine lv_iconst (v := (1 : Int32)) hx hb dX3_addWord_30 (by decide) ?_
      refine lv_isub hx hb dX3_addWord_31 ?_
      refine lv_bipush (v := (97 : Int32)) hx hb dX3_addWord_32 (by decide) ?_
      refine lv_iadd hx hb dX3_addWord_34 ?_
      refine pg_Vv (As := [.int (((Int64.toInt32 ((x1 / x3) - (x1 / x3) / (27 : Int64) * (27 : Int64))) - (1 : Int32)) + (97 : Int32))]) C hH mi_X3_add vl_X3_29 (q := (RX3, TX3, 2)) (ci := 3) rfl rfl hf (fun _ e1 => (oO_sp e1).1) (fun _ e1 => c_X3_add e1) rfl rfl hl.1 (Nat.le_of_ble_eq_true rfl) ⟨Nat.le_of_ble_eq_true rfl, Nat.le_of_ble_eq_true rfl⟩ ⟨Nat.zero_le _, Nat.zero_le _⟩ dX3_addWord_35 (fun H locs h35 hH hf => ?_)
      refine lv_lload_n hx hb dX3_addWord_38 rfl (lv_at hl 3 rfl) ?_
      refine lv_ldc2 (v := (27 : Int64)) hx hb hown (hts _ (htb _ kl_X3_35)) dX3_addWord_39 ?_
      refine lv_ldiv hx hb dX3_addWord_42 (by decide) ?_
      refine lv_lstore_n (lv' := [(3, .long (x3 / (27 : Int64))), (5, .long ((x1 / x3) - (x1 / x3) / (27 : Int64) * (27 : Int64))), (0, .ref (gB g + a0)), (1, .long x1)]) hx hb dX3_addWord_43 rfl hl (by decide) rfl (fun ls hl => ?_)
      refine lv_goto (tgt := 4) hx hb dX3_addWord_44 (by decide) ?_
      exact k4 hH hf (lv_sub hl [2, 3, 0] rfl)
set_option maxHeartbeats 4000000 in
set_option maxRecDepth 100000 in
theorem wX3_addWord_L4 {h' : PH} (C : CT g RX3 cX3_addWord 7 (Cond.code yX3_addWord cX3_addWord 7 (none) :: TB) p s m args meth c) (hr : meth.sig.returnType = none) : ∀ (n : Nat) {h : PH} {a0 : Nat} {x1 : Int64} {x3 : Int64} {H : Heap} {locs : List Loc} {ls : Array Slot}, HS g s H locs h → mX3_addWord_L4 n h a0 x1 x3 = some h' → lv_has ls 7 [(0, .ref (gB g + a0)), (1, .long x1), (3, .long x3)] → W p l e (rmD 1 0 0) s m args below meth c H locs 0 0 (MQ below (QcV g h') args s 0 0 (aB g)) (F0 m 4 ls []) := by
  intro n
  induction n with
  | zero =>
    intro h a0 x1 x3 H locs ls hH hf hl
    exact absurd hf (by intro z; cases z)
  | succ n ih =>
    intro h a0 x1 x3 H locs ls hH hf hl
    have hf : mX3_addWord_b4 (mX3_addWord_L4 n) h a0 x1 x3 = some h' := hf
    exact wX3_addWord_b4 C hr (fun a b c => ih a b c) hH hf hl
set_option maxHeartbeats 4000000 in
set_option maxRecDepth 100000 in
theorem c_X3_addWord {l : Launch} {g : GD} {h : PH} {a0 : Nat} {x1 : Int64} {h' : PH} (hf : mX3_addWord h a0 x1 = some h') : Met l yX3_addWord (Cond.code yX3_addWord cX3_addWord 7 (none) :: TB) (rmD 1 0 0) (PcH g [.ref (gB g + a0), .long x1] h) (QcV g h') 0 0 (aB g) := by
  refine Met.ofW (cc := cX3_addWord) (maxL := 7) (ret := none) (by decide) rfl ?_
  intro p e s m args below meth c s₁ B hml hv
  obtain ⟨rfl, hH0, hkk0⟩ := hv
  have C : CT g RX3 cX3_addWord 7 (Cond.code yX3_addWord cX3_addWord 7 (none) :: TB) p s m _ meth c := pg_ct (Tw := []) B hml hH0 hkk0
  have hr := B.returns
  have hH : HS g s s.heap [] h := ⟨hH0, va_S.rf⟩
  have hl := lv_entry ([.ref (gB g + a0), .long x1]) (n := 7) (Nat.le_of_ble_eq_true rfl)
  rw [lg_entry_eq]
  generalize (lg_sl ([.ref (gB g + a0), .long x1]) ++ List.replicate (7 - (lg_sl ([.ref (gB g + a0), .long x1])).length) Slot.unset).toArray = ls at hl ⊢
  have hl : lv_has ls 7 [(0, .ref (gB g + a0)), (1, .long x1)] := hl
  show W p l e (rmD 1 0 0) _ _ _ _ _ _ _ _ _ _ _ _
  unfold mX3_addWord at hf
  obtain ⟨hO, hf⟩ := oO_sp hf
  obtain ⟨⟨hx, hb, hml, hown, hts⟩, htb, hlk, hkk, hbs⟩ := id C
  refine lv_ldc2 (v := (387420489 : Int64)) hx hb hown (hts _ (htb _ kl_X3_33)) dX3_addWord_0 ?_
  refine lv_lstore_n (lv' := [(3, .long (387420489 : Int64)), (0, .ref (gB g + a0)), (1, .long x1)]) hx hb dX3_addWord_3 rfl hl (by decide) rfl (fun ls hl => ?_)
  exact wX3_addWord_L4 C hr FU hH hf (lv_sub hl [1, 2, 0] rfl)
set_option maxHeartbeats 4000000 in
set_option maxRecDepth 100000 in
theorem wX3_addNumber_b22 {r4 : PH → Nat → Int64 → Int64 → Option (PH)} {h' : PH} (C : CT g RX3 cX3_addNumber 5 (Cond.code yX3_addNumber cX3_addNumber 5 (none) :: TB) p s m args meth c) (hr : meth.sig.returnType = none) (k4 : ∀ {h : PH} {a0 : Nat} {x1 : Int64} {x3 : Int64} {H : Heap} {locs : List Loc} {ls : Array Slot}, HS g s H locs h → r4 h a0 x1 x3 = some h' → lv_has ls 5 [(0, .ref (gB g + a0)), (1, .long x1), (3, .long x3)] → W p l e (rmD 1 0 0) s m args below meth c H locs 0 0 (MQ below (QcV g h') args s 0 0 (aB g)) (F0 m 4 ls [])) {h : PH} {a0 : Nat} {x1 : Int64} {x3 : Int64} {H : Heap} {locs : List Loc} {ls : Array Slot} (hH : HS g s H locs h) (hf : mX3_addNumber_b22 r4 h a0 x1 x3 = some h') (hl : lv_has ls 5 [(0, .ref (gB g + a0)), (1, .long x1), (3, .long x3)]) : W p l e (rmD 1 0 0) s m args below meth c H locs 0 0 (MQ below (QcV g h') args s 0 0 (aB g)) (F0 m 22 ls []) := by
  obtain ⟨⟨hx, hb, hml, hown, hts⟩, htb, hlk, hkk, hbs⟩ := id C
  unfold mX3_addNumber_b22 at hf
  refine lv_aload_n hx hb dX3_addNumber_22 rfl (lv_at hl 0 rfl) ?_
  refine lv_lload_n hx hb dX3_addNumber_23 rfl (lv_at hl 1 rfl) ?_
  refine lv_lload_n hx hb dX3_addNumber_24 rfl (lv_at hl 2 rfl) ?_
  obtain ⟨hz25, hf⟩ := dz_sp hf
  refine lv_ldiv hx hb dX3_addNumber_25 hz25 ?_
  refine lv_ldc2 (v := (10 : Int64)) hx hb hown (hts _ (htb _ kl_X3_39)) dX3_addNumber_26 ?_
  refine lv_lrem hx hb dX3_addNumber_29 (by decide) ?_
  refine lv_l2i (v := (Int64.toInt32 ((x1 / x3) - (x1 / x3) / (10 : Int64) * (10 : Int64)))) hx hb dX3_addNumber_30 rfl ?_
  refine lv_bipush (v := (48 : Int32)) hx hb dX3_addNumber_31 (by decide) ?_
  refine lv_iadd hx hb dX3_addNumber_33 ?_
  refine pg_Vv (As := [.int ((Int64.toInt32 ((x1 / x3) - (x1 / x3) / (10 : Int64) * (10 : Int64))) + (48 : Int32))]) C hH mi_X3_add vl_X3_29 (q := (RX3, TX3, 2)) (ci := 3) rfl rfl hf (fun _ e1 => (oO_sp e1).1) (fun _ e1 => c_X3_add e1) rfl rfl hl.1 (Nat.le_of_ble_eq_true rfl) ⟨Nat.le_of_ble_eq_true rfl, Nat.le_of_ble_eq_true rfl⟩ ⟨Nat.zero_le _, Nat.zero_le _⟩ dX3_addNumber_34 (fun H locs h34 hH hf => ?_)
  refine lv_lload_n hx hb dX3_addNumber_37 rfl (lv_at hl 2 rfl) ?_
  refine lv_ldc2 (v := (10 : Int64)) hx hb hown (hts _ (htb _ kl_X3_39)) dX3_addNumber_38 ?_
  refine lv_ldiv hx hb dX3_addNumber_41 (by decide) ?_
  refine lv_lstore_n (lv' := [(3, .long (x3 / (10 : Int64))), (0, .ref (gB g + a0)), (1, .long x1)]) hx hb dX3_addNumber_42 rfl hl (by decide) rfl (fun ls hl => ?_)
  refine lv_goto (tgt := 4) hx hb dX3_addNumber_43 (by decide) ?_
  exact k4 hH hf (lv_sub hl [1, 2, 0] rfl)
set_option maxHeartbeats 4000000 in
set_option maxRecDepth 100000 in
theorem wX3_addNumber_b4 {r4 : PH → Nat → Int64 → Int64 → Option (PH)} {h' : PH} (C : CT g RX3 cX3_addNumber 5 (Cond.code yX3_addNumber cX3_addNumber 5 (none) :: TB) p s m args meth c) (hr : meth.sig.returnType = none) (k4 : ∀ {h : PH} {a0 : Nat} {x1 : Int64} {x3 : Int64} {H : Heap} {locs : List Loc} {ls : Array Slot}, HS g s H locs h → r4 h a0 x1 x3 = some h' → lv_has ls 5 [(0, .ref (gB g + a0)), (1, .long x1), (3, .long x3)] → W p l e (rmD 1 0 0) s m args below meth c H locs 0 0 (MQ below (QcV g h') args s 0 0 (aB g)) (F0 m 4 ls [])) {h : PH} {a0 : Nat} {x1 : Int64} {x3 : Int64} {H : Heap} {locs : List Loc} {ls : Array Slot} (hH : HS g s H locs h) (hf : mX3_addNumber_b4 r4 h a0 x1 x3 = some h') (hl : lv_has ls 5 [(0, .ref (gB g + a0)), (1, .long x1), (3, .long x3)]) : W p l e (rmD 1 0 0) s m args below meth c H locs 0 0 (MQ below (QcV g h') args s 0 0 (aB g)) (F0 m 4 ls []) := by
  obtain ⟨⟨hx, hb, hml, hown, hts⟩, htb, hlk, hkk, hbs⟩ := id C
  unfold mX3_addNumber_b4 at hf
  refine lv_lload_n hx hb dX3_addNumber_4 rfl (lv_at hl 2 rfl) ?_
  refine lv_lconst (v := (0 : Int64)) hx hb dX3_addNumber_5 (by decide) ?_
  refine W.lcmp hx hb dX3_addNumber_6 ?_
  refine lv_if_le (tgt := 46) hx hb dX3_addNumber_7 (by decide) (fun cn => ?_) (fun cn => ?_)
  · have hf := (if_pos ((lg_cmp_le _ _).mp cn)).symm.trans hf
    exact pg_vret C hr hH hf dX3_addNumber_46
  · have hf := (if_neg (fun z => cn ((lg_cmp_le _ _).mpr z))).symm.trans hf
    refine lv_lload_n hx hb dX3_addNumber_10 rfl (lv_at hl 1 rfl) ?_
    refine lv_lload_n hx hb dX3_addNumber_11 rfl (lv_at hl 2 rfl) ?_
    refine W.lcmp hx hb dX3_addNumber_12 ?_
    refine lv_if_ge (tgt := 22) hx hb dX3_addNumber_13 (by decide) (fun cn => ?_) (fun cn => ?_)
    · have hf := (if_pos ((lg_cmp_ge _ _).mp cn)).symm.trans hf
      exact wX3_addNumber_b22 C hr k4 hH hf (lv_sub hl [0, 1, 2] rfl)
    · have hf := (if_neg (fun z => cn ((lg_cmp_ge _ _).mpr z))).symm.trans hf
      refine lv_lload_n hx hb dX3_addNumber_16 rfl (lv_at hl 2 rfl) ?_
      refine lv_lconst (v := (1 : Int64)) hx hb dX3_addNumber_17 (by decide) ?_
      refine W.lcmp hx hb dX3_addNumber_18 ?_
      refine lv_if_ne (tgt := 37) hx hb dX3_addNumber_19 (by decide) (fun cn => ?_) (fun cn => ?_)
      · have hf := (if_neg (fun z => cn ((lg_cmp_eq _ _).mpr z))).symm.trans hf
        refine lv_lload_n hx hb dX3_addNumber_37 rfl (lv_at hl 2 rfl) ?_
        refine lv_ldc2 (v := (10 : Int64)) hx hb hown (hts _ (htb _ kl_X3_39)) dX3_addNumber_38 ?_
        refine lv_ldiv hx hb dX3_addNumber_41 (by decide) ?_
        refine lv_lstore_n (lv' := [(3, .long (x3 / (10 : Int64))), (0, .ref (gB g + a0)), (1, .long x1)]) hx hb dX3_addNumber_42 rfl hl (by decide) rfl (fun ls hl => ?_)
        refine lv_goto (tgt := 4) hx hb dX3_addNumber_43 (by decide) ?_
        exact k4 hH hf (lv_sub hl [1, 2, 0] rfl)
      · have hf := (if_pos ((lg_cmp_eq _ _).mp cn)).symm.trans hf
        exact wX3_addNumber_b22 C hr k4 hH hf (lv_sub hl [0, 1, 2] rfl)
set_option maxHeartbeats 4000000 in
set_option maxRecDepth 100000 in
theorem wX3_addNumber_L4 {h' : PH} (C : CT g RX3 cX3_addNumber 5 (Cond.code yX3_addNumber cX3_addNumber 5 (none) :: TB) p s m args meth c) (hr : meth.sig.returnType = none) : ∀ (n : Nat) {h : PH} {a0 : Nat} {x1 : Int64} {x3 : Int64} {H : Heap} {locs : List Loc} {ls : Array Slot}, HS g s H locs h → mX3_addNumber_L4 n h a0 x1 x3 = some h' → lv_has ls 5 [(0, .ref (gB g + a0)), (1, .long x1), (3, .long x3)] → W p l e (rmD 1 0 0) s m args below meth c H locs 0 0 (MQ below (QcV g h') args s 0 0 (aB g)) (F0 m 4 ls []) := by
  intro n
  induction n with
  | zero =>
    intro h a0 x1 x3 H locs ls hH hf hl
    exact absurd hf (by intro z; cases z)
  | succ n ih =>
    intro h a0 x1 x3 H locs ls hH hf hl
    have hf : mX3_addNumber_b4 (mX3_addNumber_L4 n) h a0 x1 x3 = some h' := hf
    exact wX3_addNumber_b4 C hr (fun a b c => ih a b c) hH hf hl
set_option maxHeartbeats 4000000 in
set_option maxRecDepth 100000 in
theorem c_X3_addNumber {l : Launch} {g : GD} {h : PH} {a0 : Nat} {x1 : Int64} {h' : PH} (hf : mX3_addNumber h a0 x1 = some h') : Met l yX3_addNumber (Cond.code yX3_addNumber cX3_addNumber 5 (none) :: TB) (rmD 1 0 0) (PcH g [.ref (gB g + a0), .long x1] h) (QcV g h') 0 0 (aB g) := by
  refine Met.ofW (cc := cX3_addNumber) (maxL := 5) (ret := none) (by decide) rfl ?_
  intro p e s m args below meth c s₁ B hml hv
  obtain ⟨rfl, hH0, hkk0⟩ := hv
  have C : CT g RX3 cX3_addNumber 5 (Cond.code yX3_addNumber cX3_addNumber 5 (none) :: TB) p s m _ meth c := pg_ct (Tw := []) B hml hH0 hkk0
  have hr := B.returns
  have hH : HS g s s.heap [] h := ⟨hH0, va_S.rf⟩
  have hl := lv_entry ([.ref (gB g + a0), .long x1]) (n := 5) (Nat.le_of_ble_eq_true rfl)
  rw [lg_entry_eq]
  generalize (lg_sl ([.ref (gB g + a0), .long x1]) ++ List.replicate (5 - (lg_sl ([.ref (gB g + a0), .long x1])).length) Slot.unset).toArray = ls at hl ⊢
  have hl : lv_has ls 5 [(0, .ref (gB g + a0)), (1, .long x1)] := hl
  show W p l e (rmD 1 0 0) _ _ _ _ _ _ _ _ _ _ _ _
  unfold mX3_addNumber at hf
  obtain ⟨hO, hf⟩ := oO_sp hf
  obtain ⟨⟨hx, hb, hml, hown, hts⟩, htb, hlk, hkk, hbs⟩ := id C
  refine lv_ldc2 (v := (1000000000000000000 : Int64)) hx hb hown (hts _ (htb _ kl_X3_37)) dX3_addNumber_0 ?_
  refine lv_lstore_n (lv' := [(3, .long (1000000000000000000 : Int64)), (0, .ref (gB g + a0)), (1, .long x1)]) hx hb dX3_addNumber_3 rfl hl (by decide) rfl (fun ls hl => ?_)
  exact wX3_addNumber_L4 C hr FU hH hf (lv_sub hl [1, 2, 0] rfl)
set_option maxHeartbeats 4000000 in
set_option maxRecDepth 100000 in
theorem wX7_learn_b5 {r5 : PH → Nat → Nat → Int32 → Int32 → Option (PH)} {h' : PH} (C : CT g RX7 cX7_learn 6 (Cond.code yX7_learn cX7_learn 6 (none) :: TB) p s m args meth c) (hr : meth.sig.returnType = none) (k5 : ∀ {h : PH} {a0 : Nat} {a1 : Nat} {x3 : Int32} {x4 : Int32} {H : Heap} {locs : List Loc} {ls : Array Slot}, HS g s H locs h → r5 h a0 a1 x3 x4 = some h' → lv_has ls 6 [(0, .ref (gB g + a0)), (1, .ref (gK g a1)), (3, .int x3), (4, .int x4)] → W p l e (rmD 4 0 0) s m args below meth c H locs 0 0 (MQ below (QcV g h') args s 0 0 (aB g)) (F0 m 5 ls [])) {h : PH} {a0 : Nat} {a1 : Nat} {x3 : Int32} {x4 : Int32} {H : Heap} {locs : List Loc} {ls : Array Slot} (hH : HS g s H locs h) (hf : mX7_learn_b5 r5 h a0 a1 x3 x4 = some h') (hl : lv_has ls 6 [(0, .ref (gB g + a0)), (1, .ref (gK g a1)), (3, .int x3), (4, .int x4)]) : W p l e (rmD 4 0 0) s m args below meth c H locs 0 0 (MQ below (QcV g h') args s 0 0 (aB g)) (F0 m 5 ls []) := by
  obtain ⟨⟨hx, hb, hml, hown, hts⟩, htb, hlk, hkk, hbs⟩ := id C
  unfold mX7_learn_b5 at hf
  refine lv_iload hx hb dX7_learn_5 (lv_at hl 3 rfl) ?_
  refine lv_aload_n hx hb dX7_learn_7 rfl (lv_at hl 1 rfl) ?_
  refine pg_kLen C hH vl_X7_32 hf hl.1 (Nat.le_of_ble_eq_true rfl) ⟨Nat.le_of_ble_eq_true rfl, Nat.le_of_ble_eq_true rfl⟩ ⟨Nat.zero_le _, Nat.zero_le _⟩ dX7_learn_8 (fun H locs v8 hH hf => ?_)
  refine lv_icmp_ge (tgt := 72) hx hb dX7_learn_11 (by decide) (fun cn => ?_) (fun cn => ?_)
  · have hf := (if_pos cn).symm.trans hf
    exact pg_vret C hr hH hf dX7_learn_72
  · have hf := (if_neg cn).symm.trans hf
    refine lv_iload_n hx hb dX7_learn_14 rfl (lv_at hl 2 rfl) ?_
    refine lv_bipush (v := (30 : Int32)) hx hb dX7_learn_15 (by decide) ?_
    refine lv_icmp_ge (tgt := 72) hx hb dX7_learn_17 (by decide) (fun cn => ?_) (fun cn => ?_)
    · have hf := (if_pos cn).symm.trans hf
      exact pg_vret C hr hH hf dX7_learn_72
    · have hf := (if_neg cn).symm.trans hf
      refine lv_aload_n hx hb dX7_learn_20 rfl (lv_at hl 1 rfl) ?_
      refine lv_iload hx hb dX7_learn_21 (lv_at hl 3 rfl) ?_
      refine pg_kAt C hH vl_X7_38 hf hl.1 (Nat.le_of_ble_eq_true rfl) ⟨Nat.le_of_ble_eq_true rfl, Nat.le_of_ble_eq_true rfl⟩ ⟨Nat.zero_le _, Nat.zero_le _⟩ dX7_learn_23 (fun H locs v23 hH hf => ?_)
      refine lv_istore (lv' := [(5, .int v23), (0, .ref (gB g + a0)), (1, .ref (gK g a1)), (3, .int x3), (4, .int x4)]) hx hb dX7_learn_26 hl (by decide) rfl (fun ls hl => ?_)
      refine lv_iload hx hb dX7_learn_28 (lv_at hl 0 rfl) ?_
      refine lv_bipush (v := (32 : Int32)) hx hb dX7_learn_30 (by decide) ?_
      refine lv_icmp_ne (tgt := 41) hx hb dX7_learn_32 (by decide) (fun cn => ?_) (fun cn => ?_)
      · have hf := (if_neg cn).symm.trans hf
        refine lv_aload_n hx hb dX7_learn_41 rfl (lv_at hl 1 rfl) ?_
        refine pg_gR C hH fl_X7_9 hf dX7_learn_42 (fun v42 hf => ?_)
        refine lv_iload_n hx hb dX7_learn_45 rfl (lv_at hl 3 rfl) ?_
        refine lv_aload_n hx hb dX7_learn_46 rfl (lv_at hl 1 rfl) ?_
        refine pg_gR C hH fl_X7_9 hf dX7_learn_47 (fun v47 hf => ?_)
        refine lv_iload_n hx hb dX7_learn_50 rfl (lv_at hl 3 rfl) ?_
        refine pg_aL C hH hf dX7_learn_51 (fun v51 hf => ?_)
        refine lv_ldc2 (v := (27 : Int64)) hx hb hown (hts _ (htb _ kl_X7_42)) dX7_learn_52 ?_
        refine lv_lmul hx hb dX7_learn_55 ?_
        refine lv_iload hx hb dX7_learn_56 (lv_at hl 0 rfl) ?_
        refine lv_bipush (v := (97 : Int32)) hx hb dX7_learn_58 (by decide) ?_
        refine lv_isub hx hb dX7_learn_60 ?_
        refine lv_iconst (v := (1 : Int32)) hx hb dX7_learn_61 (by decide) ?_
        refine lv_iadd hx hb dX7_learn_62 ?_
        refine lv_i2l (v := (Int32.toInt64 ((v23 - (97 : Int32)) + (1 : Int32)))) hx hb dX7_learn_63 rfl ?_
        refine lv_ladd hx hb dX7_learn_64 ?_
        refine pg_sL C hH hf dX7_learn_65 (fun H locs h65 hH hf => ?_)
        refine lv_iinc (v := (x4 + 1)) (lv' := [(4, .int (x4 + 1)), (5, .int v23), (0, .ref (gB g + a0)), (1, .ref (gK g a1)), (3, .int x3)]) hx hb dX7_learn_66 hl (k := 4) rfl rfl (by decide) rfl (fun ls hl => ?_)
        refine lv_goto (tgt := 5) hx hb dX7_learn_69 (by decide) ?_
        exact k5 hH hf (lv_sub hl [2, 3, 4, 0] rfl)
      · have hf := (if_pos cn).symm.trans hf
        refine lv_iinc (v := (x3 + 1)) (lv' := [(3, .int (x3 + 1)), (5, .int v23), (0, .ref (gB g + a0)), (1, .ref (gK g a1)), (4, .int x4)]) hx hb dX7_learn_35 hl (k := 3) rfl rfl (by decide) rfl (fun ls hl => ?_)
        refine lv_goto (tgt := 66) hx hb dX7_learn_38 (by decide) ?_
        refine lv_iinc (v := (x4 + 1)) (lv' := [(4, .int (x4 + 1)), (3, .int (x3 + 1)), (5, .int v23), (0, .ref (gB g + a0)), (1, .ref (gK g a1))]) hx hb dX7_learn_66 hl (k := 4) rfl rfl (by decide) rfl (fun ls hl => ?_)
        refine lv_goto (tgt := 5) hx hb dX7_learn_69 (by decide) ?_
        exact k5 hH hf (lv_sub hl [3, 4, 1, 0] rfl)
set_option maxHeartbeats 4000000 in
set_option maxRecDepth 100000 in
theorem wX7_learn_L5 {h' : PH} (C : CT g RX7 cX7_learn 6 (Cond.code yX7_learn cX7_learn 6 (none) :: TB) p s m args meth c) (hr : meth.sig.returnType = none) : ∀ (n : Nat) {h : PH} {a0 : Nat} {a1 : Nat} {x3 : Int32} {x4 : Int32} {H : Heap} {locs : List Loc} {ls : Array Slot}, HS g s H locs h → mX7_learn_L5 n h a0 a1 x3 x4 = some h' → lv_has ls 6 [(0, .ref (gB g + a0)), (1, .ref (gK g a1)), (3, .int x3), (4, .int x4)] → W p l e (rmD 4 0 0) s m args below meth c H locs 0 0 (MQ below (QcV g h') args s 0 0 (aB g)) (F0 m 5 ls []) := by
  intro n
  induction n with
  | zero =>
    intro h a0 a1 x3 x4 H locs ls hH hf hl
    exact absurd hf (by intro z; cases z)
  | succ n ih =>
    intro h a0 a1 x3 x4 H locs ls hH hf hl
    have hf : mX7_learn_b5 (mX7_learn_L5 n) h a0 a1 x3 x4 = some h' := hf
    exact wX7_learn_b5 C hr (fun a b c => ih a b c) hH hf hl
set_option maxHeartbeats 4000000 in
set_option maxRecDepth 100000 in
theorem c_X7_learn {l : Launch} {g : GD} {h : PH} {a0 : Nat} {a1 : Nat} {x2 : Int32} {h' : PH} (hf : mX7_learn h a0 a1 x2 = some h') : Met l yX7_learn (Cond.code yX7_learn cX7_learn 6 (none) :: TB) (rmD 4 0 0) (PcH g [.ref (gB g + a0), .ref (gK g a1), .int x2] h) (QcV g h') 0 0 (aB g) := by
  refine Met.ofW (cc := cX7_learn) (maxL := 6) (ret := none) (by decide) rfl ?_
  intro p e s m args below meth c s₁ B hml hv
  obtain ⟨rfl, hH0, hkk0⟩ := hv
  have C : CT g RX7 cX7_learn 6 (Cond.code yX7_learn cX7_learn 6 (none) :: TB) p s m _ meth c := pg_ct (Tw := []) B hml hH0 hkk0
  have hr := B.returns
  have hH : HS g s s.heap [] h := ⟨hH0, va_S.rf⟩
  have hl := lv_entry ([.ref (gB g + a0), .ref (gK g a1), .int x2]) (n := 6) (Nat.le_of_ble_eq_true rfl)
  rw [lg_entry_eq]
  generalize (lg_sl ([.ref (gB g + a0), .ref (gK g a1), .int x2]) ++ List.replicate (6 - (lg_sl ([.ref (gB g + a0), .ref (gK g a1), .int x2])).length) Slot.unset).toArray = ls at hl ⊢
  have hl : lv_has ls 6 [(0, .ref (gB g + a0)), (1, .ref (gK g a1)), (2, .int x2)] := hl
  show W p l e (rmD 4 0 0) _ _ _ _ _ _ _ _ _ _ _ _
  unfold mX7_learn at hf
  obtain ⟨hO, hf⟩ := oO_sp hf
  obtain ⟨⟨hx, hb, hml, hown, hts⟩, htb, hlk, hkk, hbs⟩ := id C
  refine lv_iload_n hx hb dX7_learn_0 rfl (lv_at hl 2 rfl) ?_
  refine lv_istore_n (lv' := [(3, .int x2), (0, .ref (gB g + a0)), (1, .ref (gK g a1)), (2, .int x2)]) hx hb dX7_learn_1 rfl hl (by decide) rfl (fun ls hl => ?_)
  refine lv_iconst (v := (0 : Int32)) hx hb dX7_learn_2 (by decide) ?_
  refine lv_istore (lv' := [(4, .int (0 : Int32)), (3, .int x2), (0, .ref (gB g + a0)), (1, .ref (gK g a1)), (2, .int x2)]) hx hb dX7_learn_3 hl (by decide) rfl (fun ls hl => ?_)
  exact wX7_learn_L5 C hr FU hH hf (lv_sub hl [2, 3, 1, 0] rfl)
set_option maxHeartbeats 4000000 in
set_option maxRecDepth 100000 in
theorem c_X7_init {l : Launch} {g : GD} {h : PH} {a0 : Nat} {a1 : Nat} {h' : PH} (hf : mX7_init h a0 a1 = some h') : Met l yX7_init (Cond.code yX7_init cX7_init 2 (none) :: TB) (rmD 5 1 30) (PcH g [.ref (gB g + a0), .ref (gB g + a1)] h) (QcV g h') 1 30 (aB g) := by
  refine Met.ofW (cc := cX7_init) (maxL := 2) (ret := none) (by decide) rfl ?_
  intro p e s m args below meth c s₁ B hml hv
  obtain ⟨rfl, hH0, hkk0⟩ := hv
  have C : CT g RX7 cX7_init 2 (Cond.code yX7_init cX7_init 2 (none) :: TB) p s m _ meth c := pg_ct (Tw := []) B hml hH0 hkk0
  have hr := B.returns
  have hH : HS g s s.heap [] h := ⟨hH0, va_S.rf⟩
  have hl := lv_entry ([.ref (gB g + a0), .ref (gB g + a1)]) (n := 2) (Nat.le_of_ble_eq_true rfl)
  rw [lg_entry_eq]
  generalize (lg_sl ([.ref (gB g + a0), .ref (gB g + a1)]) ++ List.replicate (2 - (lg_sl ([.ref (gB g + a0), .ref (gB g + a1)])).length) Slot.unset).toArray = ls at hl ⊢
  have hl : lv_has ls 2 [(0, .ref (gB g + a0)), (1, .ref (gB g + a1))] := hl
  show W p l e (rmD 5 1 30) _ _ _ _ _ _ _ _ _ _ _ _
  unfold mX7_init at hf
  obtain ⟨hO, hf⟩ := oO_sp hf
  have hin : meth.name = "<init>" := (name_of_methodNamed B.named B.method).1
  obtain ⟨⟨hx, hb, hml, hown, hts⟩, htb, hlk, hkk, hbs⟩ := id C
  refine lv_aload_n hx hb dX7_init_0 rfl (lv_at hl 0 rfl) ?_
  refine pg_obj C oi_X7_3 hl.1 (Nat.le_of_ble_eq_true rfl) (Nat.le_of_ble_eq_true rfl) dX7_init_1 ?_
  refine lv_aload_n hx hb dX7_init_4 rfl (lv_at hl 0 rfl) ?_
  refine lv_bipush (v := (30 : Int32)) hx hb dX7_init_5 (by decide) ?_
  refine pg_newL (N' := 30) C hH ar_L hf (by decide) (by decide) (Nat.le_of_ble_eq_true rfl) (Nat.le_of_ble_eq_true rfl) (Nat.le_of_ble_eq_true rfl) dX7_init_7 (fun H n7_0 h7_0 hH hf => ?_)
  refine W.widen (k := 1) (n := 30) (Nat.le_of_ble_eq_true rfl) (Nat.le_of_ble_eq_true rfl) ?_
  refine pg_pR C hin hH fl_X7_9 ff_7_1 rfl rfl hf dX7_init_9 (fun H locs h9_1 hH hf => ?_)
  refine lv_aload_n hx hb dX7_init_12 rfl (lv_at hl 0 rfl) ?_
  refine lv_aload_n hx hb dX7_init_13 rfl (lv_at hl 1 rfl) ?_
  refine pg_gR C hH fl_X7_15 hf dX7_init_14 (fun v14 hf => ?_)
  refine pg_pR C hin hH fl_X7_21 ff_7_0 rfl rfl hf dX7_init_17 (fun H locs h17_2 hH hf => ?_)
  refine lv_aload_n hx hb dX7_init_20 rfl (lv_at hl 0 rfl) ?_
  refine pg_ldcS (i := 0) rfl C dX7_init_21 ?_
  refine lv_iconst (v := (0 : Int32)) hx hb dX7_init_23 (by decide) ?_
  refine pg_Vv (As := [.ref (gK g 0), .int (0 : Int32)]) C hH mi_X7_learn vl_X7_24 (q := (RX7, TX7, 8)) (ci := 7) rfl rfl hf (fun _ e1 => (oO_sp e1).1) (fun _ e1 => c_X7_learn e1) rfl rfl hl.1 (Nat.le_of_ble_eq_true rfl) ⟨Nat.le_of_ble_eq_true rfl, Nat.le_of_ble_eq_true rfl⟩ ⟨Nat.le_of_ble_eq_true rfl, Nat.le_of_ble_eq_true rfl⟩ dX7_init_24 (fun H locs h24 hH hf => ?_)
  refine lv_aload_n hx hb dX7_init_27 rfl (lv_at hl 0 rfl) ?_
  refine pg_ldcS (i := 1) rfl C dX7_init_28 ?_
  refine lv_bipush (v := (12 : Int32)) hx hb dX7_init_30 (by decide) ?_
  refine pg_Vv (As := [.ref (gK g 1), .int (12 : Int32)]) C hH mi_X7_learn vl_X7_24 (q := (RX7, TX7, 8)) (ci := 7) rfl rfl hf (fun _ e1 => (oO_sp e1).1) (fun _ e1 => c_X7_learn e1) rfl rfl hl.1 (Nat.le_of_ble_eq_true rfl) ⟨Nat.le_of_ble_eq_true rfl, Nat.le_of_ble_eq_true rfl⟩ ⟨Nat.le_of_ble_eq_true rfl, Nat.le_of_ble_eq_true rfl⟩ dX7_init_32 (fun H locs h32 hH hf => ?_)
  refine lv_aload_n hx hb dX7_init_35 rfl (lv_at hl 0 rfl) ?_
  refine pg_ldcS (i := 2) rfl C dX7_init_36 ?_
  refine lv_bipush (v := (24 : Int32)) hx hb dX7_init_38 (by decide) ?_
  refine pg_Vv (As := [.ref (gK g 2), .int (24 : Int32)]) C hH mi_X7_learn vl_X7_24 (q := (RX7, TX7, 8)) (ci := 7) rfl rfl hf (fun _ e1 => (oO_sp e1).1) (fun _ e1 => c_X7_learn e1) rfl rfl hl.1 (Nat.le_of_ble_eq_true rfl) ⟨Nat.le_of_ble_eq_true rfl, Nat.le_of_ble_eq_true rfl⟩ ⟨Nat.le_of_ble_eq_true rfl, Nat.le_of_ble_eq_true rfl⟩ dX7_init_40 (fun H locs h40 hH hf => ?_)
  exact pg_vret C hr hH hf dX7_init_43
set_option maxHeartbeats 4000000 in
set_option maxRecDepth 100000 in
theorem c_X4_init {l : Launch} {g : GD} {h : PH} {a0 : Nat} {a1 : Nat} {a2 : Nat} {h' : PH} (hf : mX4_init h a0 a1 a2 = some h') : Met l yX4_init (Cond.code yX4_init cX4_init 3 (none) :: TB) (rmD 6 5 116) (PcH g [.ref (gB g + a0), .ref (gB g + a1), .ref (gB g + a2)] h) (QcV g h') 5 116 (aB g) := by
  refine Met.ofW (cc := cX4_init) (maxL := 3) (ret := none) (by decide) rfl ?_
  intro p e s m args below meth c s₁ B hml hv
  obtain ⟨rfl, hH0, hkk0⟩ := hv
  have C : CT g RX4 cX4_init 3 (Cond.code yX4_init cX4_init 3 (none) :: TB) p s m _ meth c := pg_ct (Tw := []) B hml hH0 hkk0
  have hr := B.returns
  have hH : HS g s s.heap [] h := ⟨hH0, va_S.rf⟩
  have hl := lv_entry ([.ref (gB g + a0), .ref (gB g + a1), .ref (gB g + a2)]) (n := 3) (Nat.le_of_ble_eq_true rfl)
  rw [lg_entry_eq]
  generalize (lg_sl ([.ref (gB g + a0), .ref (gB g + a1), .ref (gB g + a2)]) ++ List.replicate (3 - (lg_sl ([.ref (gB g + a0), .ref (gB g + a1), .ref (gB g + a2)])).length) Slot.unset).toArray = ls at hl ⊢
  have hl : lv_has ls 3 [(0, .ref (gB g + a0)), (1, .ref (gB g + a1)), (2, .ref (gB g + a2))] := hl
  show W p l e (rmD 6 5 116) _ _ _ _ _ _ _ _ _ _ _ _
  unfold mX4_init at hf
  obtain ⟨hO, hf⟩ := oO_sp hf
  have hin : meth.name = "<init>" := (name_of_methodNamed B.named B.method).1
  obtain ⟨⟨hx, hb, hml, hown, hts⟩, htb, hlk, hkk, hbs⟩ := id C
  refine lv_aload_n hx hb dX4_init_0 rfl (lv_at hl 0 rfl) ?_
  refine pg_obj C oi_X4_3 hl.1 (Nat.le_of_ble_eq_true rfl) (Nat.le_of_ble_eq_true rfl) dX4_init_1 ?_
  refine lv_aload_n hx hb dX4_init_4 rfl (lv_at hl 0 rfl) ?_
  refine lv_bipush (v := (26 : Int32)) hx hb dX4_init_5 (by decide) ?_
  refine pg_newL (N' := 26) C hH ar_L hf (by decide) (by decide) (Nat.le_of_ble_eq_true rfl) (Nat.le_of_ble_eq_true rfl) (Nat.le_of_ble_eq_true rfl) dX4_init_7 (fun H n7_0 h7_0 hH hf => ?_)
  refine W.widen (k := 1) (n := 26) (Nat.le_of_ble_eq_true rfl) (Nat.le_of_ble_eq_true rfl) ?_
  refine pg_pR C hin hH fl_X4_9 ff_4_2 rfl rfl hf dX4_init_9 (fun H locs h9_1 hH hf => ?_)
  refine lv_aload_n hx hb dX4_init_12 rfl (lv_at hl 0 rfl) ?_
  refine lv_bipush (v := (26 : Int32)) hx hb dX4_init_13 (by decide) ?_
  refine pg_newI (N' := 26) C hH ar_I hf (by decide) (by decide) (Nat.le_of_ble_eq_true rfl) (Nat.le_of_ble_eq_true rfl) (Nat.le_of_ble_eq_true rfl) dX4_init_15 (fun H n15_2 h15_2 hH hf => ?_)
  refine W.widen (k := 2) (n := 52) (Nat.le_of_ble_eq_true rfl) (Nat.le_of_ble_eq_true rfl) ?_
  refine pg_pR C hin hH fl_X4_15 ff_4_3 rfl rfl hf dX4_init_17 (fun H locs h17_3 hH hf => ?_)
  refine lv_aload_n hx hb dX4_init_20 rfl (lv_at hl 0 rfl) ?_
  refine lv_bipush (v := (26 : Int32)) hx hb dX4_init_21 (by decide) ?_
  refine pg_newI (N' := 26) C hH ar_I hf (by decide) (by decide) (Nat.le_of_ble_eq_true rfl) (Nat.le_of_ble_eq_true rfl) (Nat.le_of_ble_eq_true rfl) dX4_init_23 (fun H n23_4 h23_4 hH hf => ?_)
  refine W.widen (k := 3) (n := 78) (Nat.le_of_ble_eq_true rfl) (Nat.le_of_ble_eq_true rfl) ?_
  refine pg_pR C hin hH fl_X4_19 ff_4_4 rfl rfl hf dX4_init_25 (fun H locs h25_5 hH hf => ?_)
  refine lv_aload_n hx hb dX4_init_28 rfl (lv_at hl 0 rfl) ?_
  refine pg_new C hH nc_X4_22 hf (Nat.le_of_ble_eq_true rfl) (Nat.le_of_ble_eq_true rfl) dX4_init_29 (fun H n29_6 h29_6 hH hf => ?_)
  refine W.widen (k := 4) (n := 86) (Nat.le_of_ble_eq_true rfl) (Nat.le_of_ble_eq_true rfl) ?_
  refine lv_dup hx hb dX4_init_32 rfl ?_
  refine lv_aload_n hx hb dX4_init_33 rfl (lv_at hl 1 rfl) ?_
  refine pg_Iv (As := [.ref (gB g + a1)]) C hH mi_X7_init il_X4_24 rfl hf (fun _ e1 => c_X7_init e1) rfl rfl hl.1 (Nat.le_of_ble_eq_true rfl) ⟨Nat.le_of_ble_eq_true rfl, Nat.le_of_ble_eq_true rfl⟩ ⟨Nat.le_of_ble_eq_true rfl, Nat.le_of_ble_eq_true rfl⟩ dX4_init_34 (fun H locs h34_7 hH hf => ?_)
  refine W.widen (k := 5) (n := 116) (Nat.le_of_ble_eq_true rfl) (Nat.le_of_ble_eq_true rfl) ?_
  refine pg_pR C hin hH fl_X4_27 ff_4_0 rfl rfl hf dX4_init_37 (fun H locs h37_8 hH hf => ?_)
  refine lv_aload_n hx hb dX4_init_40 rfl (lv_at hl 0 rfl) ?_
  refine lv_aload_n hx hb dX4_init_41 rfl (lv_at hl 2 rfl) ?_
  refine pg_pR C hin hH fl_X4_31 ff_4_1 rfl rfl hf dX4_init_42 (fun H locs h42_9 hH hf => ?_)
  exact pg_vret C hr hH hf dX4_init_45
set_option maxHeartbeats 4000000 in
set_option maxRecDepth 100000 in
theorem wX8_clear_b18 {r18 : PH → Nat → Int32 → Option (PH)} {h' : PH} (C : CT g RX8 cX8_clear 2 (Cond.code yX8_clear cX8_clear 2 (none) :: TB) p s m args meth c) (hr : meth.sig.returnType = none) (k18 : ∀ {h : PH} {a0 : Nat} {x1 : Int32} {H : Heap} {locs : List Loc} {ls : Array Slot}, HS g s H locs h → r18 h a0 x1 = some h' → lv_has ls 2 [(0, .ref (gB g + a0)), (1, .int x1)] → W p l e (rmD 1 0 0) s m args below meth c H locs 0 0 (MQ below (QcV g h') args s 0 0 (aB g)) (F0 m 18 ls [])) {h : PH} {a0 : Nat} {x1 : Int32} {H : Heap} {locs : List Loc} {ls : Array Slot} (hH : HS g s H locs h) (hf : mX8_clear_b18 r18 h a0 x1 = some h') (hl : lv_has ls 2 [(0, .ref (gB g + a0)), (1, .int x1)]) : W p l e (rmD 1 0 0) s m args below meth c H locs 0 0 (MQ below (QcV g h') args s 0 0 (aB g)) (F0 m 18 ls []) := by
  obtain ⟨⟨hx, hb, hml, hown, hts⟩, htb, hlk, hkk, hbs⟩ := id C
  unfold mX8_clear_b18 at hf
  refine lv_iload_n hx hb dX8_clear_18 rfl (lv_at hl 1 rfl) ?_
  refine pg_gsN 2 rfl (List.mem_of_getElem? (i := 0) rfl) C hH dX8_clear_19 ?_
  refine pg_tN 2 rfl (v := (4 : Int32)) (by decide) C hH dX8_clear_22 ?_
  refine lv_icmp_ge (tgt := 46) hx hb dX8_clear_23 (by decide) (fun cn => ?_) (fun cn => ?_)
  · have hf := (if_pos cn).symm.trans hf
    exact pg_vret C hr hH hf dX8_clear_46
  · have hf := (if_neg cn).symm.trans hf
    refine lv_aload_n hx hb dX8_clear_26 rfl (lv_at hl 0 rfl) ?_
    refine pg_gR C hH fl_X8_9 hf dX8_clear_27 (fun v27 hf => ?_)
    refine lv_bipush (v := (6 : Int32)) hx hb dX8_clear_30 (by decide) ?_
    refine lv_iload_n hx hb dX8_clear_32 rfl (lv_at hl 1 rfl) ?_
    refine lv_iadd hx hb dX8_clear_33 ?_
    refine pg_gsN 2 rfl (List.mem_of_getElem? (i := 0) rfl) C hH dX8_clear_34 ?_
    refine lv_iload_n hx hb dX8_clear_37 rfl (lv_at hl 1 rfl) ?_
    refine pg_tI C hH hf dX8_clear_38 (fun v38 hf => ?_)
    refine pg_sI C hH hf dX8_clear_39 (fun H locs h39 hH hf => ?_)
    refine lv_iinc (v := (x1 + 1)) (lv' := [(1, .int (x1 + 1)), (0, .ref (gB g + a0))]) hx hb dX8_clear_40 hl (k := 1) rfl rfl (by decide) rfl (fun ls hl => ?_)
    refine lv_goto (tgt := 18) hx hb dX8_clear_43 (by decide) ?_
    exact k18 hH hf (lv_sub hl [1, 0] rfl)
set_option maxHeartbeats 4000000 in
set_option maxRecDepth 100000 in
theorem wX8_clear_L18 {h' : PH} (C : CT g RX8 cX8_clear 2 (Cond.code yX8_clear cX8_clear 2 (none) :: TB) p s m args meth c) (hr : meth.sig.returnType = none) : ∀ (n : Nat) {h : PH} {a0 : Nat} {x1 : Int32} {H : Heap} {locs : List Loc} {ls : Array Slot}, HS g s H locs h → mX8_clear_L18 n h a0 x1 = some h' → lv_has ls 2 [(0, .ref (gB g + a0)), (1, .int x1)] → W p l e (rmD 1 0 0) s m args below meth c H locs 0 0 (MQ below (QcV g h') args s 0 0 (aB g)) (F0 m 18 ls []) := by
  intro n
  induction n with
  | zero =>
    intro h a0 x1 H locs ls hH hf hl
    exact absurd hf (by intro z; cases z)
  | succ n ih =>
    intro h a0 x1 H locs ls hH hf hl
    have hf : mX8_clear_b18 (mX8_clear_L18 n) h a0 x1 = some h' := hf
    exact wX8_clear_b18 C hr (fun a b c => ih a b c) hH hf hl
set_option maxHeartbeats 4000000 in
set_option maxRecDepth 100000 in
theorem c_X8_clear {l : Launch} {g : GD} {h : PH} {a0 : Nat} {h' : PH} (hf : mX8_clear h a0 = some h') : Met l yX8_clear (Cond.code yX8_clear cX8_clear 2 (none) :: TB) (rmD 1 0 0) (PcH g [.ref (gB g + a0)] h) (QcV g h') 0 0 (aB g) := by
  refine Met.ofW (cc := cX8_clear) (maxL := 2) (ret := none) (by decide) rfl ?_
  intro p e s m args below meth c s₁ B hml hv
  obtain ⟨rfl, hH0, hkk0⟩ := hv
  have C : CT g RX8 cX8_clear 2 (Cond.code yX8_clear cX8_clear 2 (none) :: TB) p s m _ meth c := pg_ct (Tw := []) B hml hH0 hkk0
  have hr := B.returns
  have hH : HS g s s.heap [] h := ⟨hH0, va_S.rf⟩
  have hl := lv_entry ([.ref (gB g + a0)]) (n := 2) (Nat.le_of_ble_eq_true rfl)
  rw [lg_entry_eq]
  generalize (lg_sl ([.ref (gB g + a0)]) ++ List.replicate (2 - (lg_sl ([.ref (gB g + a0)])).length) Slot.unset).toArray = ls at hl ⊢
  have hl : lv_has ls 2 [(0, .ref (gB g + a0))] := hl
  show W p l e (rmD 1 0 0) _ _ _ _ _ _ _ _ _ _ _ _
  unfold mX8_clear at hf
  obtain ⟨hO, hf⟩ := oO_sp hf
  obtain ⟨⟨hx, hb, hml, hown, hts⟩, htb, hlk, hkk, hbs⟩ := id C
  refine lv_aload_n hx hb dX8_clear_0 rfl (lv_at hl 0 rfl) ?_
  refine pg_gR C hH fl_X8_9 hf dX8_clear_1 (fun v1 hf => ?_)
  refine lv_iconst (v := (0 : Int32)) hx hb dX8_clear_4 (by decide) ?_
  refine pg_Sv (As := [.ref (gB g + v1), .int (0 : Int32)]) C hH mi_J7_fill_53178 sl_X8_42 hf (fun _ e1 => c_J7_fill_53178 e1) rfl rfl hl.1 (Nat.le_of_ble_eq_true rfl) ⟨Nat.le_of_ble_eq_true rfl, Nat.le_of_ble_eq_true rfl⟩ ⟨Nat.zero_le _, Nat.zero_le _⟩ dX8_clear_5 (fun H locs h5 hH hf => ?_)
  refine lv_aload_n hx hb dX8_clear_8 rfl (lv_at hl 0 rfl) ?_
  refine pg_gR C hH fl_X8_15 hf dX8_clear_9 (fun v9 hf => ?_)
  refine lv_iconst (v := (0 : Int32)) hx hb dX8_clear_12 (by decide) ?_
  refine pg_Sv (As := [.ref (gB g + v9), .int (0 : Int32)]) C hH mi_J7_fill_53178 sl_X8_42 hf (fun _ e1 => c_J7_fill_53178 e1) rfl rfl hl.1 (Nat.le_of_ble_eq_true rfl) ⟨Nat.le_of_ble_eq_true rfl, Nat.le_of_ble_eq_true rfl⟩ ⟨Nat.zero_le _, Nat.zero_le _⟩ dX8_clear_13 (fun H locs h13 hH hf => ?_)
  refine lv_iconst (v := (0 : Int32)) hx hb dX8_clear_16 (by decide) ?_
  refine lv_istore_n (lv' := [(1, .int (0 : Int32)), (0, .ref (gB g + a0))]) hx hb dX8_clear_17 rfl hl (by decide) rfl (fun ls hl => ?_)
  exact wX8_clear_L18 C hr FU hH hf (lv_sub hl [1, 0] rfl)
set_option maxHeartbeats 4000000 in
set_option maxRecDepth 100000 in
theorem c_X7_start {l : Launch} {g : GD} {h : PH} {a0 : Nat} {x1 : Int32} {h' : PH} (hf : mX7_start h a0 x1 = some h') : Met l yX7_start (Cond.code yX7_start cX7_start 2 (none) :: TB) (rmD 1 0 0) (PcH g [.ref (gB g + a0), .int x1] h) (QcV g h') 0 0 (aB g) := by
  refine Met.ofW (cc := cX7_start) (maxL := 2) (ret := none) (by decide) rfl ?_
  intro p e s m args below meth c s₁ B hml hv
  obtain ⟨rfl, hH0, hkk0⟩ := hv
  have C : CT g RX7 cX7_start 2 (Cond.code yX7_start cX7_start 2 (none) :: TB) p s m _ meth c := pg_ct (Tw := []) B hml hH0 hkk0
  have hr := B.returns
  have hH : HS g s s.heap [] h := ⟨hH0, va_S.rf⟩
  have hl := lv_entry ([.ref (gB g + a0), .int x1]) (n := 2) (Nat.le_of_ble_eq_true rfl)
  rw [lg_entry_eq]
  generalize (lg_sl ([.ref (gB g + a0), .int x1]) ++ List.replicate (2 - (lg_sl ([.ref (gB g + a0), .int x1])).length) Slot.unset).toArray = ls at hl ⊢
  have hl : lv_has ls 2 [(0, .ref (gB g + a0)), (1, .int x1)] := hl
  show W p l e (rmD 1 0 0) _ _ _ _ _ _ _ _ _ _ _ _
  unfold mX7_start at hf
  obtain ⟨hO, hf⟩ := oO_sp hf
  obtain ⟨⟨hx, hb, hml, hown, hts⟩, htb, hlk, hkk, hbs⟩ := id C
  refine lv_aload_n hx hb dX7_start_0 rfl (lv_at hl 0 rfl) ?_
  refine lv_iload_n hx hb dX7_start_1 rfl (lv_at hl 1 rfl) ?_
  refine lv_aload_n hx hb dX7_start_2 rfl (lv_at hl 0 rfl) ?_
  refine pg_gR C hH fl_X7_21 hf dX7_start_3 (fun v3 hf => ?_)
  refine pg_aN C hH (by decide) hf dX7_start_6 (fun v6 hf => ?_)
  refine pg_mmin C jm_X7_44 hl.1 (Nat.le_of_ble_eq_true rfl) (Nat.le_of_ble_eq_true rfl) ⟨Nat.zero_le _, Nat.zero_le _⟩ dX7_start_7 ?_
  refine pg_pI C hH fl_X7_50 fm_7_2 hf dX7_start_10 (fun H locs h10 hH hf => ?_)
  refine lv_aload_n hx hb dX7_start_13 rfl (lv_at hl 0 rfl) ?_
  refine lv_iconst (v := (0 : Int32)) hx hb dX7_start_14 (by decide) ?_
  refine pg_pI C hH fl_X7_54 fm_7_3 hf dX7_start_15 (fun H locs h15 hH hf => ?_)
  exact pg_vret C hr hH hf dX7_start_18
set_option maxHeartbeats 4000000 in
set_option maxRecDepth 100000 in
theorem c_X7_isLetter {l : Launch} {g : GD} {h : PH} {x0 : Int32} {r : Int32} {h' : PH} (hf : mX7_isLetter h x0 = some (r, h')) : Met l yX7_isLetter (Cond.code yX7_isLetter cX7_isLetter 1 (some .boolean) :: TB) (rmD 0 0 0) (PcH g [.int x0] h) (QcI g r h') 0 0 (aB g) := by
  refine Met.ofW (cc := cX7_isLetter) (maxL := 1) (ret := some .boolean) (by decide) rfl ?_
  intro p e s m args below meth c s₁ B hml hv
  obtain ⟨rfl, hH0, hkk0⟩ := hv
  have C : CT g RX7 cX7_isLetter 1 (Cond.code yX7_isLetter cX7_isLetter 1 (some .boolean) :: TB) p s m _ meth c := pg_ct (Tw := []) B hml hH0 hkk0
  have hr := B.returns
  have hH : HS g s s.heap [] h := ⟨hH0, va_S.rf⟩
  have hl := lv_entry ([.int x0]) (n := 1) (Nat.le_of_ble_eq_true rfl)
  rw [lg_entry_eq]
  generalize (lg_sl ([.int x0]) ++ List.replicate (1 - (lg_sl ([.int x0])).length) Slot.unset).toArray = ls at hl ⊢
  have hl : lv_has ls 1 [(0, .int x0)] := hl
  show W p l e (rmD 0 0 0) _ _ _ _ _ _ _ _ _ _ _ _
  unfold mX7_isLetter at hf
  obtain ⟨⟨hx, hb, hml, hown, hts⟩, htb, hlk, hkk, hbs⟩ := id C
  refine lv_iload_n hx hb dX7_isLetter_0 rfl (lv_at hl 0 rfl) ?_
  refine lv_bipush (v := (97 : Int32)) hx hb dX7_isLetter_1 (by decide) ?_
  refine lv_icmp_lt (tgt := 16) hx hb dX7_isLetter_3 (by decide) (fun cn => ?_) (fun cn => ?_)
  · have hf := (if_pos cn).symm.trans hf
    refine lv_iconst (v := (0 : Int32)) hx hb dX7_isLetter_16 (by decide) ?_
    exact pg_zret C hr hH hf dX7_isLetter_17
  · have hf := (if_neg cn).symm.trans hf
    refine lv_iload_n hx hb dX7_isLetter_6 rfl (lv_at hl 0 rfl) ?_
    refine lv_bipush (v := (122 : Int32)) hx hb dX7_isLetter_7 (by decide) ?_
    refine lv_icmp_gt (tgt := 16) hx hb dX7_isLetter_9 (by decide) (fun cn => ?_) (fun cn => ?_)
    · have hf := (if_pos cn).symm.trans hf
      refine lv_iconst (v := (0 : Int32)) hx hb dX7_isLetter_16 (by decide) ?_
      exact pg_zret C hr hH hf dX7_isLetter_17
    · have hf := (if_neg cn).symm.trans hf
      refine lv_iconst (v := (1 : Int32)) hx hb dX7_isLetter_12 (by decide) ?_
      refine lv_goto (tgt := 17) hx hb dX7_isLetter_13 (by decide) ?_
      exact pg_zret C hr hH hf dX7_isLetter_17
set_option maxHeartbeats 4000000 in
set_option maxRecDepth 100000 in
theorem wX7_takeWord_b92 {r92 : PH → Nat → Int32 → Option (PH)} {h' : PH} (C : CT g RX7 cX7_takeWord 2 (Cond.code yX7_takeWord cX7_takeWord 2 (none) :: TB) p s m args meth c) (hr : meth.sig.returnType = none) (k92 : ∀ {h : PH} {a0 : Nat} {x1 : Int32} {H : Heap} {locs : List Loc} {ls : Array Slot}, HS g s H locs h → r92 h a0 x1 = some h' → lv_has ls 2 [(0, .ref (gB g + a0)), (1, .int x1)] → W p l e (rmD 1 0 0) s m args below meth c H locs 0 0 (MQ below (QcV g h') args s 0 0 (aB g)) (F0 m 92 ls [])) {h : PH} {a0 : Nat} {x1 : Int32} {H : Heap} {locs : List Loc} {ls : Array Slot} (hH : HS g s H locs h) (hf : mX7_takeWord_b92 r92 h a0 x1 = some h') (hl : lv_has ls 2 [(0, .ref (gB g + a0)), (1, .int x1)]) : W p l e (rmD 1 0 0) s m args below meth c H locs 0 0 (MQ below (QcV g h') args s 0 0 (aB g)) (F0 m 92 ls []) := by
  obtain ⟨⟨hx, hb, hml, hown, hts⟩, htb, hlk, hkk, hbs⟩ := id C
  unfold mX7_takeWord_b92 at hf
  refine lv_iload_n hx hb dX7_takeWord_92 rfl (lv_at hl 1 rfl) ?_
  refine lv_bipush (v := (30 : Int32)) hx hb dX7_takeWord_93 (by decide) ?_
  refine lv_icmp_ge (tgt := 131) hx hb dX7_takeWord_95 (by decide) (fun cn => ?_) (fun cn => ?_)
  · have hf := (if_pos cn).symm.trans hf
    exact pg_vret C hr hH hf dX7_takeWord_131
  · have hf := (if_neg cn).symm.trans hf
    refine lv_aload_n hx hb dX7_takeWord_98 rfl (lv_at hl 0 rfl) ?_
    refine pg_gI C hH fl_X7_67 hf dX7_takeWord_99 (fun v99 hf => ?_)
    refine lv_iconst (v := (1 : Int32)) hx hb dX7_takeWord_102 (by decide) ?_
    refine lv_icmp_ne (tgt := 131) hx hb dX7_takeWord_103 (by decide) (fun cn => ?_) (fun cn => ?_)
    · have hf := (if_neg cn).symm.trans hf
      exact pg_vret C hr hH hf dX7_takeWord_131
    · have hf := (if_pos cn).symm.trans hf
      refine lv_aload_n hx hb dX7_takeWord_106 rfl (lv_at hl 0 rfl) ?_
      refine pg_gR C hH fl_X7_9 hf dX7_takeWord_107 (fun v107 hf => ?_)
      refine lv_iload_n hx hb dX7_takeWord_110 rfl (lv_at hl 1 rfl) ?_
      refine pg_aL C hH hf dX7_takeWord_111 (fun v111 hf => ?_)
      refine lv_aload_n hx hb dX7_takeWord_112 rfl (lv_at hl 0 rfl) ?_
      refine pg_gL C hH fl_X7_63 hf dX7_takeWord_113 (fun v113 hf => ?_)
      refine W.lcmp hx hb dX7_takeWord_116 ?_
      refine lv_if_ne (tgt := 125) hx hb dX7_takeWord_117 (by decide) (fun cn => ?_) (fun cn => ?_)
      · have hf := (if_neg (fun z => cn ((lg_cmp_eq _ _).mpr z))).symm.trans hf
        refine lv_iinc (v := (x1 + 1)) (lv' := [(1, .int (x1 + 1)), (0, .ref (gB g + a0))]) hx hb dX7_takeWord_125 hl (k := 1) rfl rfl (by decide) rfl (fun ls hl => ?_)
        refine lv_goto (tgt := 92) hx hb dX7_takeWord_128 (by decide) ?_
        exact k92 hH hf (lv_sub hl [1, 0] rfl)
      · have hf := (if_pos ((lg_cmp_eq _ _).mp cn)).symm.trans hf
        refine lv_aload_n hx hb dX7_takeWord_120 rfl (lv_at hl 0 rfl) ?_
        refine lv_iload_n hx hb dX7_takeWord_121 rfl (lv_at hl 1 rfl) ?_
        refine pg_pI C hH fl_X7_60 fm_7_6 hf dX7_takeWord_122 (fun H locs h122 hH hf => ?_)
        refine lv_iinc (v := (x1 + 1)) (lv' := [(1, .int (x1 + 1)), (0, .ref (gB g + a0))]) hx hb dX7_takeWord_125 hl (k := 1) rfl rfl (by decide) rfl (fun ls hl => ?_)
        refine lv_goto (tgt := 92) hx hb dX7_takeWord_128 (by decide) ?_
        exact k92 hH hf (lv_sub hl [1, 0] rfl)
set_option maxHeartbeats 4000000 in
set_option maxRecDepth 100000 in
theorem wX7_takeWord_L92 {h' : PH} (C : CT g RX7 cX7_takeWord 2 (Cond.code yX7_takeWord cX7_takeWord 2 (none) :: TB) p s m args meth c) (hr : meth.sig.returnType = none) : ∀ (n : Nat) {h : PH} {a0 : Nat} {x1 : Int32} {H : Heap} {locs : List Loc} {ls : Array Slot}, HS g s H locs h → mX7_takeWord_L92 n h a0 x1 = some h' → lv_has ls 2 [(0, .ref (gB g + a0)), (1, .int x1)] → W p l e (rmD 1 0 0) s m args below meth c H locs 0 0 (MQ below (QcV g h') args s 0 0 (aB g)) (F0 m 92 ls []) := by
  intro n
  induction n with
  | zero =>
    intro h a0 x1 H locs ls hH hf hl
    exact absurd hf (by intro z; cases z)
  | succ n ih =>
    intro h a0 x1 H locs ls hH hf hl
    have hf : mX7_takeWord_b92 (mX7_takeWord_L92 n) h a0 x1 = some h' := hf
    exact wX7_takeWord_b92 C hr (fun a b c => ih a b c) hH hf hl
set_option maxHeartbeats 4000000 in
set_option maxRecDepth 100000 in
theorem wX7_takeWord_b87 {h' : PH} (C : CT g RX7 cX7_takeWord 2 (Cond.code yX7_takeWord cX7_takeWord 2 (none) :: TB) p s m args meth c) (hr : meth.sig.returnType = none) {h : PH} {a0 : Nat} {s0 : Nat} {s1 : Int32} {H : Heap} {locs : List Loc} {ls : Array Slot} (hH : HS g s H locs h) (hf : mX7_takeWord_b87 h a0 s0 s1 = some h') (hl : lv_has ls 2 [(0, .ref (gB g + a0))]) : W p l e (rmD 1 0 0) s m args below meth c H locs 0 0 (MQ below (QcV g h') args s 0 0 (aB g)) (F0 m 87 ls [.int s1, .ref (gB g + s0)]) := by
  obtain ⟨⟨hx, hb, hml, hown, hts⟩, htb, hlk, hkk, hbs⟩ := id C
  unfold mX7_takeWord_b87 at hf
  refine pg_pI C hH fl_X7_67 fm_7_5 hf dX7_takeWord_87 (fun H locs h87 hH hf => ?_)
  refine lv_iconst (v := (0 : Int32)) hx hb dX7_takeWord_90 (by decide) ?_
  refine lv_istore_n (lv' := [(1, .int (0 : Int32)), (0, .ref (gB g + a0))]) hx hb dX7_takeWord_91 rfl hl (by decide) rfl (fun ls hl => ?_)
  exact wX7_takeWord_L92 C hr FU hH hf (lv_sub hl [1, 0] rfl)
set_option maxHeartbeats 4000000 in
set_option maxRecDepth 100000 in
theorem wX7_takeWord_b67 {h' : PH} (C : CT g RX7 cX7_takeWord 2 (Cond.code yX7_takeWord cX7_takeWord 2 (none) :: TB) p s m args meth c) (hr : meth.sig.returnType = none) {h : PH} {a0 : Nat} {H : Heap} {locs : List Loc} {ls : Array Slot} (hH : HS g s H locs h) (hf : mX7_takeWord_b67 h a0 = some h') (hl : lv_has ls 2 [(0, .ref (gB g + a0))]) : W p l e (rmD 1 0 0) s m args below meth c H locs 0 0 (MQ below (QcV g h') args s 0 0 (aB g)) (F0 m 67 ls []) := by
  obtain ⟨⟨hx, hb, hml, hown, hts⟩, htb, hlk, hkk, hbs⟩ := id C
  unfold mX7_takeWord_b67 at hf
  refine lv_aload_n hx hb dX7_takeWord_67 rfl (lv_at hl 0 rfl) ?_
  refine lv_aload_n hx hb dX7_takeWord_68 rfl (lv_at hl 0 rfl) ?_
  refine pg_gI C hH fl_X7_54 hf dX7_takeWord_69 (fun v69 hf => ?_)
  refine lv_aload_n hx hb dX7_takeWord_72 rfl (lv_at hl 0 rfl) ?_
  refine pg_gI C hH fl_X7_57 hf dX7_takeWord_73 (fun v73 hf => ?_)
  refine lv_isub hx hb dX7_takeWord_76 ?_
  refine lv_bipush (v := (7 : Int32)) hx hb dX7_takeWord_77 (by decide) ?_
  refine lv_icmp_le (tgt := 86) hx hb dX7_takeWord_79 (by decide) (fun cn => ?_) (fun cn => ?_)
  · have hf := (if_pos cn).symm.trans hf
    refine lv_iconst (v := (1 : Int32)) hx hb dX7_takeWord_86 (by decide) ?_
    exact wX7_takeWord_b87 C hr hH hf (lv_sub hl [0] rfl)
  · have hf := (if_neg cn).symm.trans hf
    refine lv_iconst (v := (4 : Int32)) hx hb dX7_takeWord_82 (by decide) ?_
    refine lv_goto (tgt := 87) hx hb dX7_takeWord_83 (by decide) ?_
    exact wX7_takeWord_b87 C hr hH hf (lv_sub hl [0] rfl)
set_option maxHeartbeats 4000000 in
set_option maxRecDepth 100000 in
theorem wX7_takeWord_b0 {r0 : PH → Nat → Option (PH)} {h' : PH} (C : CT g RX7 cX7_takeWord 2 (Cond.code yX7_takeWord cX7_takeWord 2 (none) :: TB) p s m args meth c) (hr : meth.sig.returnType = none) (k0 : ∀ {h : PH} {a0 : Nat} {H : Heap} {locs : List Loc} {ls : Array Slot}, HS g s H locs h → r0 h a0 = some h' → lv_has ls 2 [(0, .ref (gB g + a0))] → W p l e (rmD 1 0 0) s m args below meth c H locs 0 0 (MQ below (QcV g h') args s 0 0 (aB g)) (F0 m 0 ls [])) {h : PH} {a0 : Nat} {H : Heap} {locs : List Loc} {ls : Array Slot} (hH : HS g s H locs h) (hf : mX7_takeWord_b0 r0 h a0 = some h') (hl : lv_has ls 2 [(0, .ref (gB g + a0))]) : W p l e (rmD 1 0 0) s m args below meth c H locs 0 0 (MQ below (QcV g h') args s 0 0 (aB g)) (F0 m 0 ls []) := by
  obtain ⟨⟨hx, hb, hml, hown, hts⟩, htb, hlk, hkk, hbs⟩ := id C
  unfold mX7_takeWord_b0 at hf
  refine lv_aload_n hx hb dX7_takeWord_0 rfl (lv_at hl 0 rfl) ?_
  refine pg_gI C hH fl_X7_54 hf dX7_takeWord_1 (fun v1 hf => ?_)
  refine lv_aload_n hx hb dX7_takeWord_4 rfl (lv_at hl 0 rfl) ?_
  refine pg_gI C hH fl_X7_50 hf dX7_takeWord_5 (fun v5 hf => ?_)
  refine lv_icmp_ge (tgt := 67) hx hb dX7_takeWord_8 (by decide) (fun cn => ?_) (fun cn => ?_)
  · have hf := (if_pos cn).symm.trans hf
    exact wX7_takeWord_b67 C hr hH hf (lv_sub hl [0] rfl)
  · have hf := (if_neg cn).symm.trans hf
    refine lv_aload_n hx hb dX7_takeWord_11 rfl (lv_at hl 0 rfl) ?_
    refine pg_gR C hH fl_X7_21 hf dX7_takeWord_12 (fun v12 hf => ?_)
    refine lv_aload_n hx hb dX7_takeWord_15 rfl (lv_at hl 0 rfl) ?_
    refine pg_gI C hH fl_X7_54 hf dX7_takeWord_16 (fun v16 hf => ?_)
    refine pg_aB C hH hf dX7_takeWord_19 (fun v19 hf => ?_)
    refine pg_Si (As := [.int v19]) C hH mi_X7_isLetter sl_X7_70 hf (fun _ _ e1 => c_X7_isLetter e1) rfl rfl hl.1 (Nat.le_of_ble_eq_true rfl) ⟨Nat.le_of_ble_eq_true rfl, Nat.le_of_ble_eq_true rfl⟩ ⟨Nat.zero_le _, Nat.zero_le _⟩ dX7_takeWord_20 (fun H locs v20 h20 hH hf => ?_)
    refine lv_if_eq (tgt := 67) hx hb dX7_takeWord_23 (by decide) (fun cn => ?_) (fun cn => ?_)
    · have hf := (if_pos cn).symm.trans hf
      exact wX7_takeWord_b67 C hr hH hf (lv_sub hl [0] rfl)
    · have hf := (if_neg cn).symm.trans hf
      refine lv_aload_n hx hb dX7_takeWord_26 rfl (lv_at hl 0 rfl) ?_
      refine lv_aload_n hx hb dX7_takeWord_27 rfl (lv_at hl 0 rfl) ?_
      refine pg_gL C hH fl_X7_63 hf dX7_takeWord_28 (fun v28 hf => ?_)
      refine lv_ldc2 (v := (27 : Int64)) hx hb hown (hts _ (htb _ kl_X7_42)) dX7_takeWord_31 ?_
      refine lv_lmul hx hb dX7_takeWord_34 ?_
      refine lv_aload_n hx hb dX7_takeWord_35 rfl (lv_at hl 0 rfl) ?_
      refine pg_gR C hH fl_X7_21 hf dX7_takeWord_36 (fun v36 hf => ?_)
      refine lv_aload_n hx hb dX7_takeWord_39 rfl (lv_at hl 0 rfl) ?_
      refine pg_gI C hH fl_X7_54 hf dX7_takeWord_40 (fun v40 hf => ?_)
      refine pg_aB C hH hf dX7_takeWord_43 (fun v43 hf => ?_)
      refine lv_bipush (v := (97 : Int32)) hx hb dX7_takeWord_44 (by decide) ?_
      refine lv_isub hx hb dX7_takeWord_46 ?_
      refine lv_iconst (v := (1 : Int32)) hx hb dX7_takeWord_47 (by decide) ?_
      refine lv_iadd hx hb dX7_takeWord_48 ?_
      refine lv_i2l (v := (Int32.toInt64 ((v43 - (97 : Int32)) + (1 : Int32)))) hx hb dX7_takeWord_49 rfl ?_
      refine lv_ladd hx hb dX7_takeWord_50 ?_
      refine pg_pL C hH fl_X7_63 fm_7_7 hf dX7_takeWord_51 (fun H locs h51 hH hf => ?_)
      refine lv_aload_n hx hb dX7_takeWord_54 rfl (lv_at hl 0 rfl) ?_
      refine lv_dup hx hb dX7_takeWord_55 rfl ?_
      refine pg_gI C hH fl_X7_54 hf dX7_takeWord_56 (fun v56 hf => ?_)
      refine lv_iconst (v := (1 : Int32)) hx hb dX7_takeWord_59 (by decide) ?_
      refine lv_iadd hx hb dX7_takeWord_60 ?_
      refine pg_pI C hH fl_X7_54 fm_7_3 hf dX7_takeWord_61 (fun H locs h61 hH hf => ?_)
      refine lv_goto (tgt := 0) hx hb dX7_takeWord_64 (by decide) ?_
      exact k0 hH hf (lv_sub hl [0] rfl)
set_option maxHeartbeats 4000000 in
set_option maxRecDepth 100000 in
theorem wX7_takeWord_L0 {h' : PH} (C : CT g RX7 cX7_takeWord 2 (Cond.code yX7_takeWord cX7_takeWord 2 (none) :: TB) p s m args meth c) (hr : meth.sig.returnType = none) : ∀ (n : Nat) {h : PH} {a0 : Nat} {H : Heap} {locs : List Loc} {ls : Array Slot}, HS g s H locs h → mX7_takeWord_L0 n h a0 = some h' → lv_has ls 2 [(0, .ref (gB g + a0))] → W p l e (rmD 1 0 0) s m args below meth c H locs 0 0 (MQ below (QcV g h') args s 0 0 (aB g)) (F0 m 0 ls []) := by
  intro n
  induction n with
  | zero =>
    intro h a0 H locs ls hH hf hl
    exact absurd hf (by intro z; cases z)
  | succ n ih =>
    intro h a0 H locs ls hH hf hl
    have hf : mX7_takeWord_b0 (mX7_takeWord_L0 n) h a0 = some h' := hf
    exact wX7_takeWord_b0 C hr (fun a b c => ih a b c) hH hf hl
set_option maxHeartbeats 4000000 in
set_option maxRecDepth 100000 in
theorem c_X7_takeWord {l : Launch} {g : GD} {h : PH} {a0 : Nat} {h' : PH} (hf : mX7_takeWord h a0 = some h') : Met l yX7_takeWord (Cond.code yX7_takeWord cX7_takeWord 2 (none) :: TB) (rmD 1 0 0) (PcH g [.ref (gB g + a0)] h) (QcV g h') 0 0 (aB g) := by
  refine Met.ofW (cc := cX7_takeWord) (maxL := 2) (ret := none) (by decide) rfl ?_
  intro p e s m args below meth c s₁ B hml hv
  obtain ⟨rfl, hH0, hkk0⟩ := hv
  have C : CT g RX7 cX7_takeWord 2 (Cond.code yX7_takeWord cX7_takeWord 2 (none) :: TB) p s m _ meth c := pg_ct (Tw := []) B hml hH0 hkk0
  have hr := B.returns
  have hH : HS g s s.heap [] h := ⟨hH0, va_S.rf⟩
  have hl := lv_entry ([.ref (gB g + a0)]) (n := 2) (Nat.le_of_ble_eq_true rfl)
  rw [lg_entry_eq]
  generalize (lg_sl ([.ref (gB g + a0)]) ++ List.replicate (2 - (lg_sl ([.ref (gB g + a0)])).length) Slot.unset).toArray = ls at hl ⊢
  have hl : lv_has ls 2 [(0, .ref (gB g + a0))] := hl
  show W p l e (rmD 1 0 0) _ _ _ _ _ _ _ _ _ _ _ _
  unfold mX7_takeWord at hf
  obtain ⟨hO, hf⟩ := oO_sp hf
  obtain ⟨⟨hx, hb, hml, hown, hts⟩, htb, hlk, hkk, hbs⟩ := id C
  exact wX7_takeWord_L0 C hr FU hH hf (lv_sub hl [0] rfl)
set_option maxHeartbeats 4000000 in
set_option maxRecDepth 100000 in
theorem c_X7_isDigit {l : Launch} {g : GD} {h : PH} {x0 : Int32} {r : Int32} {h' : PH} (hf : mX7_isDigit h x0 = some (r, h')) : Met l yX7_isDigit (Cond.code yX7_isDigit cX7_isDigit 1 (some .boolean) :: TB) (rmD 0 0 0) (PcH g [.int x0] h) (QcI g r h') 0 0 (aB g) := by
  refine Met.ofW (cc := cX7_isDigit) (maxL := 1) (ret := some .boolean) (by decide) rfl ?_
  intro p e s m args below meth c s₁ B hml hv
  obtain ⟨rfl, hH0, hkk0⟩ := hv
  have C : CT g RX7 cX7_isDigit 1 (Cond.code yX7_isDigit cX7_isDigit 1 (some .boolean) :: TB) p s m _ meth c := pg_ct (Tw := []) B hml hH0 hkk0
  have hr := B.returns
  have hH : HS g s s.heap [] h := ⟨hH0, va_S.rf⟩
  have hl := lv_entry ([.int x0]) (n := 1) (Nat.le_of_ble_eq_true rfl)
  rw [lg_entry_eq]
  generalize (lg_sl ([.int x0]) ++ List.replicate (1 - (lg_sl ([.int x0])).length) Slot.unset).toArray = ls at hl ⊢
  have hl : lv_has ls 1 [(0, .int x0)] := hl
  show W p l e (rmD 0 0 0) _ _ _ _ _ _ _ _ _ _ _ _
  unfold mX7_isDigit at hf
  obtain ⟨⟨hx, hb, hml, hown, hts⟩, htb, hlk, hkk, hbs⟩ := id C
  refine lv_iload_n hx hb dX7_isDigit_0 rfl (lv_at hl 0 rfl) ?_
  refine lv_bipush (v := (48 : Int32)) hx hb dX7_isDigit_1 (by decide) ?_
  refine lv_icmp_lt (tgt := 16) hx hb dX7_isDigit_3 (by decide) (fun cn => ?_) (fun cn => ?_)
  · have hf := (if_pos cn).symm.trans hf
    refine lv_iconst (v := (0 : Int32)) hx hb dX7_isDigit_16 (by decide) ?_
    exact pg_zret C hr hH hf dX7_isDigit_17
  · have hf := (if_neg cn).symm.trans hf
    refine lv_iload_n hx hb dX7_isDigit_6 rfl (lv_at hl 0 rfl) ?_
    refine lv_bipush (v := (57 : Int32)) hx hb dX7_isDigit_7 (by decide) ?_
    refine lv_icmp_gt (tgt := 16) hx hb dX7_isDigit_9 (by decide) (fun cn => ?_) (fun cn => ?_)
    · have hf := (if_pos cn).symm.trans hf
      refine lv_iconst (v := (0 : Int32)) hx hb dX7_isDigit_16 (by decide) ?_
      exact pg_zret C hr hH hf dX7_isDigit_17
    · have hf := (if_neg cn).symm.trans hf
      refine lv_iconst (v := (1 : Int32)) hx hb dX7_isDigit_12 (by decide) ?_
      refine lv_goto (tgt := 17) hx hb dX7_isDigit_13 (by decide) ?_
      exact pg_zret C hr hH hf dX7_isDigit_17
set_option maxHeartbeats 4000000 in
set_option maxRecDepth 100000 in
theorem wX7_takeNumber_b84 {h' : PH} (C : CT g RX7 cX7_takeNumber 1 (Cond.code yX7_takeNumber cX7_takeNumber 1 (none) :: TB) p s m args meth c) (hr : meth.sig.returnType = none) {h : PH} {s0 : Nat} {s1 : Int32} {H : Heap} {locs : List Loc} {ls : Array Slot} (hH : HS g s H locs h) (hf : mX7_takeNumber_b84 h s0 s1 = some h') (hl : lv_has ls 1 []) : W p l e (rmD 1 0 0) s m args below meth c H locs 0 0 (MQ below (QcV g h') args s 0 0 (aB g)) (F0 m 84 ls [.int s1, .ref (gB g + s0)]) := by
  obtain ⟨⟨hx, hb, hml, hown, hts⟩, htb, hlk, hkk, hbs⟩ := id C
  unfold mX7_takeNumber_b84 at hf
  refine pg_pI C hH fl_X7_67 fm_7_5 hf dX7_takeNumber_84 (fun H locs h84 hH hf => ?_)
  exact pg_vret C hr hH hf dX7_takeNumber_87
set_option maxHeartbeats 4000000 in
set_option maxRecDepth 100000 in
theorem wX7_takeNumber_b65 {h' : PH} (C : CT g RX7 cX7_takeNumber 1 (Cond.code yX7_takeNumber cX7_takeNumber 1 (none) :: TB) p s m args meth c) (hr : meth.sig.returnType = none) {h : PH} {a0 : Nat} {H : Heap} {locs : List Loc} {ls : Array Slot} (hH : HS g s H locs h) (hf : mX7_takeNumber_b65 h a0 = some h') (hl : lv_has ls 1 [(0, .ref (gB g + a0))]) : W p l e (rmD 1 0 0) s m args below meth c H locs 0 0 (MQ below (QcV g h') args s 0 0 (aB g)) (F0 m 65 ls []) := by
  obtain ⟨⟨hx, hb, hml, hown, hts⟩, htb, hlk, hkk, hbs⟩ := id C
  unfold mX7_takeNumber_b65 at hf
  refine lv_aload_n hx hb dX7_takeNumber_65 rfl (lv_at hl 0 rfl) ?_
  refine lv_aload_n hx hb dX7_takeNumber_66 rfl (lv_at hl 0 rfl) ?_
  refine pg_gI C hH fl_X7_54 hf dX7_takeNumber_67 (fun v67 hf => ?_)
  refine lv_aload_n hx hb dX7_takeNumber_70 rfl (lv_at hl 0 rfl) ?_
  refine pg_gI C hH fl_X7_57 hf dX7_takeNumber_71 (fun v71 hf => ?_)
  refine lv_isub hx hb dX7_takeNumber_74 ?_
  refine lv_iconst (v := (4 : Int32)) hx hb dX7_takeNumber_75 (by decide) ?_
  refine lv_icmp_le (tgt := 83) hx hb dX7_takeNumber_76 (by decide) (fun cn => ?_) (fun cn => ?_)
  · have hf := (if_pos cn).symm.trans hf
    refine lv_iconst (v := (2 : Int32)) hx hb dX7_takeNumber_83 (by decide) ?_
    exact wX7_takeNumber_b84 C hr hH hf (lv_sub hl [] rfl)
  · have hf := (if_neg cn).symm.trans hf
    refine lv_iconst (v := (4 : Int32)) hx hb dX7_takeNumber_79 (by decide) ?_
    refine lv_goto (tgt := 84) hx hb dX7_takeNumber_80 (by decide) ?_
    exact wX7_takeNumber_b84 C hr hH hf (lv_sub hl [] rfl)
set_option maxHeartbeats 4000000 in
set_option maxRecDepth 100000 in
theorem wX7_takeNumber_b0 {r0 : PH → Nat → Option (PH)} {h' : PH} (C : CT g RX7 cX7_takeNumber 1 (Cond.code yX7_takeNumber cX7_takeNumber 1 (none) :: TB) p s m args meth c) (hr : meth.sig.returnType = none) (k0 : ∀ {h : PH} {a0 : Nat} {H : Heap} {locs : List Loc} {ls : Array Slot}, HS g s H locs h → r0 h a0 = some h' → lv_has ls 1 [(0, .ref (gB g + a0))] → W p l e (rmD 1 0 0) s m args below meth c H locs 0 0 (MQ below (QcV g h') args s 0 0 (aB g)) (F0 m 0 ls [])) {h : PH} {a0 : Nat} {H : Heap} {locs : List Loc} {ls : Array Slot} (hH : HS g s H locs h) (hf : mX7_takeNumber_b0 r0 h a0 = some h') (hl : lv_has ls 1 [(0, .ref (gB g + a0))]) : W p l e (rmD 1 0 0) s m args below meth c H locs 0 0 (MQ below (QcV g h') args s 0 0 (aB g)) (F0 m 0 ls []) := by
  obtain ⟨⟨hx, hb, hml, hown, hts⟩, htb, hlk, hkk, hbs⟩ := id C
  unfold mX7_takeNumber_b0 at hf
  refine lv_aload_n hx hb dX7_takeNumber_0 rfl (lv_at hl 0 rfl) ?_
  refine pg_gI C hH fl_X7_54 hf dX7_takeNumber_1 (fun v1 hf => ?_)
  refine lv_aload_n hx hb dX7_takeNumber_4 rfl (lv_at hl 0 rfl) ?_
  refine pg_gI C hH fl_X7_50 hf dX7_takeNumber_5 (fun v5 hf => ?_)
  refine lv_icmp_ge (tgt := 65) hx hb dX7_takeNumber_8 (by decide) (fun cn => ?_) (fun cn => ?_)
  · have hf := (if_pos cn).symm.trans hf
    exact wX7_takeNumber_b65 C hr hH hf (lv_sub hl [0] rfl)
  · have hf := (if_neg cn).symm.trans hf
    refine lv_aload_n hx hb dX7_takeNumber_11 rfl (lv_at hl 0 rfl) ?_
    refine pg_gR C hH fl_X7_21 hf dX7_takeNumber_12 (fun v12 hf => ?_)
    refine lv_aload_n hx hb dX7_takeNumber_15 rfl (lv_at hl 0 rfl) ?_
    refine pg_gI C hH fl_X7_54 hf dX7_takeNumber_16 (fun v16 hf => ?_)
    refine pg_aB C hH hf dX7_takeNumber_19 (fun v19 hf => ?_)
    refine pg_Si (As := [.int v19]) C hH mi_X7_isDigit sl_X7_77 hf (fun _ _ e1 => c_X7_isDigit e1) rfl rfl hl.1 (Nat.le_of_ble_eq_true rfl) ⟨Nat.le_of_ble_eq_true rfl, Nat.le_of_ble_eq_true rfl⟩ ⟨Nat.zero_le _, Nat.zero_le _⟩ dX7_takeNumber_20 (fun H locs v20 h20 hH hf => ?_)
    refine lv_if_eq (tgt := 65) hx hb dX7_takeNumber_23 (by decide) (fun cn => ?_) (fun cn => ?_)
    · have hf := (if_pos cn).symm.trans hf
      exact wX7_takeNumber_b65 C hr hH hf (lv_sub hl [0] rfl)
    · have hf := (if_neg cn).symm.trans hf
      refine lv_aload_n hx hb dX7_takeNumber_26 rfl (lv_at hl 0 rfl) ?_
      refine lv_aload_n hx hb dX7_takeNumber_27 rfl (lv_at hl 0 rfl) ?_
      refine pg_gL C hH fl_X7_63 hf dX7_takeNumber_28 (fun v28 hf => ?_)
      refine lv_ldc2 (v := (10 : Int64)) hx hb hown (hts _ (htb _ kl_X7_83)) dX7_takeNumber_31 ?_
      refine lv_lmul hx hb dX7_takeNumber_34 ?_
      refine lv_aload_n hx hb dX7_takeNumber_35 rfl (lv_at hl 0 rfl) ?_
      refine pg_gR C hH fl_X7_21 hf dX7_takeNumber_36 (fun v36 hf => ?_)
      refine lv_aload_n hx hb dX7_takeNumber_39 rfl (lv_at hl 0 rfl) ?_
      refine pg_gI C hH fl_X7_54 hf dX7_takeNumber_40 (fun v40 hf => ?_)
      refine pg_aB C hH hf dX7_takeNumber_43 (fun v43 hf => ?_)
      refine lv_bipush (v := (48 : Int32)) hx hb dX7_takeNumber_44 (by decide) ?_
      refine lv_isub hx hb dX7_takeNumber_46 ?_
      refine lv_i2l (v := (Int32.toInt64 (v43 - (48 : Int32)))) hx hb dX7_takeNumber_47 rfl ?_
      refine lv_ladd hx hb dX7_takeNumber_48 ?_
      refine pg_pL C hH fl_X7_63 fm_7_7 hf dX7_takeNumber_49 (fun H locs h49 hH hf => ?_)
      refine lv_aload_n hx hb dX7_takeNumber_52 rfl (lv_at hl 0 rfl) ?_
      refine lv_dup hx hb dX7_takeNumber_53 rfl ?_
      refine pg_gI C hH fl_X7_54 hf dX7_takeNumber_54 (fun v54 hf => ?_)
      refine lv_iconst (v := (1 : Int32)) hx hb dX7_takeNumber_57 (by decide) ?_
      refine lv_iadd hx hb dX7_takeNumber_58 ?_
      refine pg_pI C hH fl_X7_54 fm_7_3 hf dX7_takeNumber_59 (fun H locs h59 hH hf => ?_)
      refine lv_goto (tgt := 0) hx hb dX7_takeNumber_62 (by decide) ?_
      exact k0 hH hf (lv_sub hl [0] rfl)
set_option maxHeartbeats 4000000 in
set_option maxRecDepth 100000 in
theorem wX7_takeNumber_L0 {h' : PH} (C : CT g RX7 cX7_takeNumber 1 (Cond.code yX7_takeNumber cX7_takeNumber 1 (none) :: TB) p s m args meth c) (hr : meth.sig.returnType = none) : ∀ (n : Nat) {h : PH} {a0 : Nat} {H : Heap} {locs : List Loc} {ls : Array Slot}, HS g s H locs h → mX7_takeNumber_L0 n h a0 = some h' → lv_has ls 1 [(0, .ref (gB g + a0))] → W p l e (rmD 1 0 0) s m args below meth c H locs 0 0 (MQ below (QcV g h') args s 0 0 (aB g)) (F0 m 0 ls []) := by
  intro n
  induction n with
  | zero =>
    intro h a0 H locs ls hH hf hl
    exact absurd hf (by intro z; cases z)
  | succ n ih =>
    intro h a0 H locs ls hH hf hl
    have hf : mX7_takeNumber_b0 (mX7_takeNumber_L0 n) h a0 = some h' := hf
    exact wX7_takeNumber_b0 C hr (fun a b c => ih a b c) hH hf hl
set_option maxHeartbeats 4000000 in
set_option maxRecDepth 100000 in
theorem c_X7_takeNumber {l : Launch} {g : GD} {h : PH} {a0 : Nat} {h' : PH} (hf : mX7_takeNumber h a0 = some h') : Met l yX7_takeNumber (Cond.code yX7_takeNumber cX7_takeNumber 1 (none) :: TB) (rmD 1 0 0) (PcH g [.ref (gB g + a0)] h) (QcV g h') 0 0 (aB g) := by
  refine Met.ofW (cc := cX7_takeNumber) (maxL := 1) (ret := none) (by decide) rfl ?_
  intro p e s m args below meth c s₁ B hml hv
  obtain ⟨rfl, hH0, hkk0⟩ := hv
  have C : CT g RX7 cX7_takeNumber 1 (Cond.code yX7_takeNumber cX7_takeNumber 1 (none) :: TB) p s m _ meth c := pg_ct (Tw := []) B hml hH0 hkk0
  have hr := B.returns
  have hH : HS g s s.heap [] h := ⟨hH0, va_S.rf⟩
  have hl := lv_entry ([.ref (gB g + a0)]) (n := 1) (Nat.le_of_ble_eq_true rfl)
  rw [lg_entry_eq]
  generalize (lg_sl ([.ref (gB g + a0)]) ++ List.replicate (1 - (lg_sl ([.ref (gB g + a0)])).length) Slot.unset).toArray = ls at hl ⊢
  have hl : lv_has ls 1 [(0, .ref (gB g + a0))] := hl
  show W p l e (rmD 1 0 0) _ _ _ _ _ _ _ _ _ _ _ _
  unfold mX7_takeNumber at hf
  obtain ⟨hO, hf⟩ := oO_sp hf
  obtain ⟨⟨hx, hb, hml, hown, hts⟩, htb, hlk, hkk, hbs⟩ := id C
  exact wX7_takeNumber_L0 C hr FU hH hf (lv_sub hl [0] rfl)
set_option maxHeartbeats 4000000 in
set_option maxRecDepth 100000 in
theorem wX7_next_b39 {r0 : PH → Nat → Option (PH)} {h' : PH} (C : CT g RX7 cX7_next 1 (Cond.code yX7_next cX7_next 1 (none) :: TB) p s m args meth c) (hr : meth.sig.returnType = none) (k0 : ∀ {h : PH} {a0 : Nat} {H : Heap} {locs : List Loc} {ls : Array Slot}, HS g s H locs h → r0 h a0 = some h' → lv_has ls 1 [(0, .ref (gB g + a0))] → W p l e (rmD 2 0 0) s m args below meth c H locs 0 0 (MQ below (QcV g h') args s 0 0 (aB g)) (F0 m 0 ls [])) {h : PH} {a0 : Nat} {H : Heap} {locs : List Loc} {ls : Array Slot} (hH : HS g s H locs h) (hf : mX7_next_b39 r0 h a0 = some h') (hl : lv_has ls 1 [(0, .ref (gB g + a0))]) : W p l e (rmD 2 0 0) s m args below meth c H locs 0 0 (MQ below (QcV g h') args s 0 0 (aB g)) (F0 m 39 ls []) := by
  obtain ⟨⟨hx, hb, hml, hown, hts⟩, htb, hlk, hkk, hbs⟩ := id C
  unfold mX7_next_b39 at hf
  refine lv_aload_n hx hb dX7_next_39 rfl (lv_at hl 0 rfl) ?_
  refine lv_dup hx hb dX7_next_40 rfl ?_
  refine pg_gI C hH fl_X7_54 hf dX7_next_41 (fun v41 hf => ?_)
  refine lv_iconst (v := (1 : Int32)) hx hb dX7_next_44 (by decide) ?_
  refine lv_iadd hx hb dX7_next_45 ?_
  refine pg_pI C hH fl_X7_54 fm_7_3 hf dX7_next_46 (fun H locs h46 hH hf => ?_)
  refine lv_goto (tgt := 0) hx hb dX7_next_49 (by decide) ?_
  exact k0 hH hf (lv_sub hl [0] rfl)
set_option maxHeartbeats 4000000 in
set_option maxRecDepth 100000 in
theorem wX7_next_b52 {h' : PH} (C : CT g RX7 cX7_next 1 (Cond.code yX7_next cX7_next 1 (none) :: TB) p s m args meth c) (hr : meth.sig.returnType = none) {h : PH} {a0 : Nat} {H : Heap} {locs : List Loc} {ls : Array Slot} (hH : HS g s H locs h) (hf : mX7_next_b52 h a0 = some h') (hl : lv_has ls 1 [(0, .ref (gB g + a0))]) : W p l e (rmD 2 0 0) s m args below meth c H locs 0 0 (MQ below (QcV g h') args s 0 0 (aB g)) (F0 m 52 ls []) := by
  obtain ⟨⟨hx, hb, hml, hown, hts⟩, htb, hlk, hkk, hbs⟩ := id C
  unfold mX7_next_b52 at hf
  refine lv_aload_n hx hb dX7_next_52 rfl (lv_at hl 0 rfl) ?_
  refine lv_aload_n hx hb dX7_next_53 rfl (lv_at hl 0 rfl) ?_
  refine pg_gI C hH fl_X7_54 hf dX7_next_54 (fun v54 hf => ?_)
  refine pg_pI C hH fl_X7_57 fm_7_4 hf dX7_next_57 (fun H locs h57 hH hf => ?_)
  refine lv_aload_n hx hb dX7_next_60 rfl (lv_at hl 0 rfl) ?_
  refine lv_iconst (v := (-1 : Int32)) hx hb dX7_next_61 (by decide) ?_
  refine pg_pI C hH fl_X7_60 fm_7_6 hf dX7_next_62 (fun H locs h62 hH hf => ?_)
  refine lv_aload_n hx hb dX7_next_65 rfl (lv_at hl 0 rfl) ?_
  refine lv_lconst (v := (0 : Int64)) hx hb dX7_next_66 (by decide) ?_
  refine pg_pL C hH fl_X7_63 fm_7_7 hf dX7_next_67 (fun H locs h67 hH hf => ?_)
  refine lv_aload_n hx hb dX7_next_70 rfl (lv_at hl 0 rfl) ?_
  refine pg_gI C hH fl_X7_54 hf dX7_next_71 (fun v71 hf => ?_)
  refine lv_aload_n hx hb dX7_next_74 rfl (lv_at hl 0 rfl) ?_
  refine pg_gI C hH fl_X7_50 hf dX7_next_75 (fun v75 hf => ?_)
  refine lv_icmp_lt (tgt := 89) hx hb dX7_next_78 (by decide) (fun cn => ?_) (fun cn => ?_)
  · have hf := (if_pos cn).symm.trans hf
    refine lv_aload_n hx hb dX7_next_89 rfl (lv_at hl 0 rfl) ?_
    refine pg_gR C hH fl_X7_21 hf dX7_next_90 (fun v90 hf => ?_)
    refine lv_aload_n hx hb dX7_next_93 rfl (lv_at hl 0 rfl) ?_
    refine pg_gI C hH fl_X7_54 hf dX7_next_94 (fun v94 hf => ?_)
    refine pg_aB C hH hf dX7_next_97 (fun v97 hf => ?_)
    refine lv_bipush (v := (59 : Int32)) hx hb dX7_next_98 (by decide) ?_
    refine lv_icmp_ne (tgt := 121) hx hb dX7_next_100 (by decide) (fun cn => ?_) (fun cn => ?_)
    · have hf := (if_neg cn).symm.trans hf
      refine lv_aload_n hx hb dX7_next_121 rfl (lv_at hl 0 rfl) ?_
      refine pg_gR C hH fl_X7_21 hf dX7_next_122 (fun v122 hf => ?_)
      refine lv_aload_n hx hb dX7_next_125 rfl (lv_at hl 0 rfl) ?_
      refine pg_gI C hH fl_X7_54 hf dX7_next_126 (fun v126 hf => ?_)
      refine pg_aB C hH hf dX7_next_129 (fun v129 hf => ?_)
      refine pg_Si (As := [.int v129]) C hH mi_X7_isLetter sl_X7_70 hf (fun _ _ e1 => c_X7_isLetter e1) rfl rfl hl.1 (Nat.le_of_ble_eq_true rfl) ⟨Nat.le_of_ble_eq_true rfl, Nat.le_of_ble_eq_true rfl⟩ ⟨Nat.zero_le _, Nat.zero_le _⟩ dX7_next_130 (fun H locs v130 h130 hH hf => ?_)
      refine lv_if_eq (tgt := 143) hx hb dX7_next_133 (by decide) (fun cn => ?_) (fun cn => ?_)
      · have hf := (if_pos cn).symm.trans hf
        refine lv_aload_n hx hb dX7_next_143 rfl (lv_at hl 0 rfl) ?_
        refine pg_gR C hH fl_X7_21 hf dX7_next_144 (fun v144 hf => ?_)
        refine lv_aload_n hx hb dX7_next_147 rfl (lv_at hl 0 rfl) ?_
        refine pg_gI C hH fl_X7_54 hf dX7_next_148 (fun v148 hf => ?_)
        refine pg_aB C hH hf dX7_next_151 (fun v151 hf => ?_)
        refine pg_Si (As := [.int v151]) C hH mi_X7_isDigit sl_X7_77 hf (fun _ _ e1 => c_X7_isDigit e1) rfl rfl hl.1 (Nat.le_of_ble_eq_true rfl) ⟨Nat.le_of_ble_eq_true rfl, Nat.le_of_ble_eq_true rfl⟩ ⟨Nat.zero_le _, Nat.zero_le _⟩ dX7_next_152 (fun H locs v152 h152 hH hf => ?_)
        refine lv_if_eq (tgt := 165) hx hb dX7_next_155 (by decide) (fun cn => ?_) (fun cn => ?_)
        · have hf := (if_pos cn).symm.trans hf
          refine lv_aload_n hx hb dX7_next_165 rfl (lv_at hl 0 rfl) ?_
          refine lv_iconst (v := (4 : Int32)) hx hb dX7_next_166 (by decide) ?_
          refine pg_pI C hH fl_X7_67 fm_7_5 hf dX7_next_167 (fun H locs h167 hH hf => ?_)
          exact pg_vret C hr hH hf dX7_next_170
        · have hf := (if_neg cn).symm.trans hf
          refine lv_aload_n hx hb dX7_next_158 rfl (lv_at hl 0 rfl) ?_
          refine pg_Vv (As := []) C hH mi_X7_takeNumber vl_X7_80 (q := (RX7, TX7, 8)) (ci := 7) rfl rfl hf (fun _ e1 => (oO_sp e1).1) (fun _ e1 => c_X7_takeNumber e1) rfl rfl hl.1 (Nat.le_of_ble_eq_true rfl) ⟨Nat.le_of_ble_eq_true rfl, Nat.le_of_ble_eq_true rfl⟩ ⟨Nat.zero_le _, Nat.zero_le _⟩ dX7_next_159 (fun H locs h159 hH hf => ?_)
          refine lv_goto (tgt := 170) hx hb dX7_next_162 (by decide) ?_
          exact pg_vret C hr hH hf dX7_next_170
      · have hf := (if_neg cn).symm.trans hf
        refine lv_aload_n hx hb dX7_next_136 rfl (lv_at hl 0 rfl) ?_
        refine pg_Vv (As := []) C hH mi_X7_takeWord vl_X7_74 (q := (RX7, TX7, 8)) (ci := 7) rfl rfl hf (fun _ e1 => (oO_sp e1).1) (fun _ e1 => c_X7_takeWord e1) rfl rfl hl.1 (Nat.le_of_ble_eq_true rfl) ⟨Nat.le_of_ble_eq_true rfl, Nat.le_of_ble_eq_true rfl⟩ ⟨Nat.zero_le _, Nat.zero_le _⟩ dX7_next_137 (fun H locs h137 hH hf => ?_)
        refine lv_goto (tgt := 170) hx hb dX7_next_140 (by decide) ?_
        exact pg_vret C hr hH hf dX7_next_170
    · have hf := (if_pos cn).symm.trans hf
      refine lv_aload_n hx hb dX7_next_103 rfl (lv_at hl 0 rfl) ?_
      refine lv_iconst (v := (3 : Int32)) hx hb dX7_next_104 (by decide) ?_
      refine pg_pI C hH fl_X7_67 fm_7_5 hf dX7_next_105 (fun H locs h105 hH hf => ?_)
      refine lv_aload_n hx hb dX7_next_108 rfl (lv_at hl 0 rfl) ?_
      refine lv_dup hx hb dX7_next_109 rfl ?_
      refine pg_gI C hH fl_X7_54 hf dX7_next_110 (fun v110 hf => ?_)
      refine lv_iconst (v := (1 : Int32)) hx hb dX7_next_113 (by decide) ?_
      refine lv_iadd hx hb dX7_next_114 ?_
      refine pg_pI C hH fl_X7_54 fm_7_3 hf dX7_next_115 (fun H locs h115 hH hf => ?_)
      refine lv_goto (tgt := 170) hx hb dX7_next_118 (by decide) ?_
      exact pg_vret C hr hH hf dX7_next_170
  · have hf := (if_neg cn).symm.trans hf
    refine lv_aload_n hx hb dX7_next_81 rfl (lv_at hl 0 rfl) ?_
    refine lv_iconst (v := (0 : Int32)) hx hb dX7_next_82 (by decide) ?_
    refine pg_pI C hH fl_X7_67 fm_7_5 hf dX7_next_83 (fun H locs h83 hH hf => ?_)
    refine lv_goto (tgt := 170) hx hb dX7_next_86 (by decide) ?_
    exact pg_vret C hr hH hf dX7_next_170
set_option maxHeartbeats 4000000 in
set_option maxRecDepth 100000 in
theorem wX7_next_b0 {r0 : PH → Nat → Option (PH)} {h' : PH} (C : CT g RX7 cX7_next 1 (Cond.code yX7_next cX7_next 1 (none) :: TB) p s m args meth c) (hr : meth.sig.returnType = none) (k0 : ∀ {h : PH} {a0 : Nat} {H : Heap} {locs : List Loc} {ls : Array Slot}, HS g s H locs h → r0 h a0 = some h' → lv_has ls 1 [(0, .ref (gB g + a0))] → W p l e (rmD 2 0 0) s m args below meth c H locs 0 0 (MQ below (QcV g h') args s 0 0 (aB g)) (F0 m 0 ls [])) {h : PH} {a0 : Nat} {H : Heap} {locs : List Loc} {ls : Array Slot} (hH : HS g s H locs h) (hf : mX7_next_b0 r0 h a0 = some h') (hl : lv_has ls 1 [(0, .ref (gB g + a0))]) : W p l e (rmD 2 0 0) s m args below meth c H locs 0 0 (MQ below (QcV g h') args s 0 0 (aB g)) (F0 m 0 ls []) := by
  obtain ⟨⟨hx, hb, hml, hown, hts⟩, htb, hlk, hkk, hbs⟩ := id C
  unfold mX7_next_b0 at hf
  refine lv_aload_n hx hb dX7_next_0 rfl (lv_at hl 0 rfl) ?_
  refine pg_gI C hH fl_X7_54 hf dX7_next_1 (fun v1 hf => ?_)
  refine lv_aload_n hx hb dX7_next_4 rfl (lv_at hl 0 rfl) ?_
  refine pg_gI C hH fl_X7_50 hf dX7_next_5 (fun v5 hf => ?_)
  refine lv_icmp_ge (tgt := 52) hx hb dX7_next_8 (by decide) (fun cn => ?_) (fun cn => ?_)
  · have hf := (if_pos cn).symm.trans hf
    exact wX7_next_b52 C hr hH hf (lv_sub hl [0] rfl)
  · have hf := (if_neg cn).symm.trans hf
    refine lv_aload_n hx hb dX7_next_11 rfl (lv_at hl 0 rfl) ?_
    refine pg_gR C hH fl_X7_21 hf dX7_next_12 (fun v12 hf => ?_)
    refine lv_aload_n hx hb dX7_next_15 rfl (lv_at hl 0 rfl) ?_
    refine pg_gI C hH fl_X7_54 hf dX7_next_16 (fun v16 hf => ?_)
    refine pg_aB C hH hf dX7_next_19 (fun v19 hf => ?_)
    refine lv_bipush (v := (32 : Int32)) hx hb dX7_next_20 (by decide) ?_
    refine lv_icmp_eq (tgt := 39) hx hb dX7_next_22 (by decide) (fun cn => ?_) (fun cn => ?_)
    · have hf := (if_pos cn).symm.trans hf
      exact wX7_next_b39 C hr k0 hH hf (lv_sub hl [0] rfl)
    · have hf := (if_neg cn).symm.trans hf
      refine lv_aload_n hx hb dX7_next_25 rfl (lv_at hl 0 rfl) ?_
      refine pg_gR C hH fl_X7_21 hf dX7_next_26 (fun v26 hf => ?_)
      refine lv_aload_n hx hb dX7_next_29 rfl (lv_at hl 0 rfl) ?_
      refine pg_gI C hH fl_X7_54 hf dX7_next_30 (fun v30 hf => ?_)
      refine pg_aB C hH hf dX7_next_33 (fun v33 hf => ?_)
      refine lv_bipush (v := (10 : Int32)) hx hb dX7_next_34 (by decide) ?_
      refine lv_icmp_ne (tgt := 52) hx hb dX7_next_36 (by decide) (fun cn => ?_) (fun cn => ?_)
      · have hf := (if_neg cn).symm.trans hf
        exact wX7_next_b52 C hr hH hf (lv_sub hl [0] rfl)
      · have hf := (if_pos cn).symm.trans hf
        exact wX7_next_b39 C hr k0 hH hf (lv_sub hl [0] rfl)
set_option maxHeartbeats 4000000 in
set_option maxRecDepth 100000 in
theorem wX7_next_L0 {h' : PH} (C : CT g RX7 cX7_next 1 (Cond.code yX7_next cX7_next 1 (none) :: TB) p s m args meth c) (hr : meth.sig.returnType = none) : ∀ (n : Nat) {h : PH} {a0 : Nat} {H : Heap} {locs : List Loc} {ls : Array Slot}, HS g s H locs h → mX7_next_L0 n h a0 = some h' → lv_has ls 1 [(0, .ref (gB g + a0))] → W p l e (rmD 2 0 0) s m args below meth c H locs 0 0 (MQ below (QcV g h') args s 0 0 (aB g)) (F0 m 0 ls []) := by
  intro n
  induction n with
  | zero =>
    intro h a0 H locs ls hH hf hl
    exact absurd hf (by intro z; cases z)
  | succ n ih =>
    intro h a0 H locs ls hH hf hl
    have hf : mX7_next_b0 (mX7_next_L0 n) h a0 = some h' := hf
    exact wX7_next_b0 C hr (fun a b c => ih a b c) hH hf hl
set_option maxHeartbeats 4000000 in
set_option maxRecDepth 100000 in
theorem c_X7_next {l : Launch} {g : GD} {h : PH} {a0 : Nat} {h' : PH} (hf : mX7_next h a0 = some h') : Met l yX7_next (Cond.code yX7_next cX7_next 1 (none) :: TB) (rmD 2 0 0) (PcH g [.ref (gB g + a0)] h) (QcV g h') 0 0 (aB g) := by
  refine Met.ofW (cc := cX7_next) (maxL := 1) (ret := none) (by decide) rfl ?_
  intro p e s m args below meth c s₁ B hml hv
  obtain ⟨rfl, hH0, hkk0⟩ := hv
  have C : CT g RX7 cX7_next 1 (Cond.code yX7_next cX7_next 1 (none) :: TB) p s m _ meth c := pg_ct (Tw := []) B hml hH0 hkk0
  have hr := B.returns
  have hH : HS g s s.heap [] h := ⟨hH0, va_S.rf⟩
  have hl := lv_entry ([.ref (gB g + a0)]) (n := 1) (Nat.le_of_ble_eq_true rfl)
  rw [lg_entry_eq]
  generalize (lg_sl ([.ref (gB g + a0)]) ++ List.replicate (1 - (lg_sl ([.ref (gB g + a0)])).length) Slot.unset).toArray = ls at hl ⊢
  have hl : lv_has ls 1 [(0, .ref (gB g + a0))] := hl
  show W p l e (rmD 2 0 0) _ _ _ _ _ _ _ _ _ _ _ _
  unfold mX7_next at hf
  obtain ⟨hO, hf⟩ := oO_sp hf
  obtain ⟨⟨hx, hb, hml, hown, hts⟩, htb, hlk, hkk, hbs⟩ := id C
  exact wX7_next_L0 C hr FU hH hf (lv_sub hl [0] rfl)
set_option maxHeartbeats 4000000 in
set_option maxRecDepth 100000 in
theorem c_X4_fail {l : Launch} {g : GD} {h : PH} {a0 : Nat} {x1 : Int32} {h' : PH} (hf : mX4_fail h a0 x1 = some h') : Met l yX4_fail (Cond.code yX4_fail cX4_fail 2 (none) :: TB) (rmD 0 0 0) (PcH g [.ref (gB g + a0), .int x1] h) (QcV g h') 0 0 (aB g) := by
  refine Met.ofW (cc := cX4_fail) (maxL := 2) (ret := none) (by decide) rfl ?_
  intro p e s m args below meth c s₁ B hml hv
  obtain ⟨rfl, hH0, hkk0⟩ := hv
  have C : CT g RX4 cX4_fail 2 (Cond.code yX4_fail cX4_fail 2 (none) :: TB) p s m _ meth c := pg_ct (Tw := []) B hml hH0 hkk0
  have hr := B.returns
  have hH : HS g s s.heap [] h := ⟨hH0, va_S.rf⟩
  have hl := lv_entry ([.ref (gB g + a0), .int x1]) (n := 2) (Nat.le_of_ble_eq_true rfl)
  rw [lg_entry_eq]
  generalize (lg_sl ([.ref (gB g + a0), .int x1]) ++ List.replicate (2 - (lg_sl ([.ref (gB g + a0), .int x1])).length) Slot.unset).toArray = ls at hl ⊢
  have hl : lv_has ls 2 [(0, .ref (gB g + a0)), (1, .int x1)] := hl
  show W p l e (rmD 0 0 0) _ _ _ _ _ _ _ _ _ _ _ _
  unfold mX4_fail at hf
  obtain ⟨hO, hf⟩ := oO_sp hf
  obtain ⟨⟨hx, hb, hml, hown, hts⟩, htb, hlk, hkk, hbs⟩ := id C
  refine lv_aload_n hx hb dX4_fail_0 rfl (lv_at hl 0 rfl) ?_
  refine pg_gI C hH fl_X4_47 hf dX4_fail_1 (fun v1 hf => ?_)
  refine lv_if_ne (tgt := 23) hx hb dX4_fail_4 (by decide) (fun cn => ?_) (fun cn => ?_)
  · have hf := (if_neg cn).symm.trans hf
    exact pg_vret C hr hH hf dX4_fail_23
  · have hf := (if_pos cn).symm.trans hf
    refine lv_aload_n hx hb dX4_fail_7 rfl (lv_at hl 0 rfl) ?_
    refine lv_bipush (v := (8 : Int32)) hx hb dX4_fail_8 (by decide) ?_
    refine lv_aload_n hx hb dX4_fail_10 rfl (lv_at hl 0 rfl) ?_
    refine pg_gR C hH fl_X4_27 hf dX4_fail_11 (fun v11 hf => ?_)
    refine pg_gI C hH fl_X4_167 hf dX4_fail_14 (fun v14 hf => ?_)
    refine lv_imul hx hb dX4_fail_17 ?_
    refine lv_iload_n hx hb dX4_fail_18 rfl (lv_at hl 1 rfl) ?_
    refine lv_iadd hx hb dX4_fail_19 ?_
    refine pg_pI C hH fl_X4_47 fm_4_7 hf dX4_fail_20 (fun H locs h20 hH hf => ?_)
    exact pg_vret C hr hH hf dX4_fail_23
set_option maxHeartbeats 4000000 in
set_option maxRecDepth 100000 in
theorem c_X4_isFull {l : Launch} {g : GD} {h : PH} {a0 : Nat} {x1 : Int32} {r : Int32} {h' : PH} (hf : mX4_isFull h a0 x1 = some (r, h')) : Met l yX4_isFull (Cond.code yX4_isFull cX4_isFull 2 (some .boolean) :: TB) (rmD 0 0 0) (PcH g [.ref (gB g + a0), .int x1] h) (QcI g r h') 0 0 (aB g) := by
  refine Met.ofW (cc := cX4_isFull) (maxL := 2) (ret := some .boolean) (by decide) rfl ?_
  intro p e s m args below meth c s₁ B hml hv
  obtain ⟨rfl, hH0, hkk0⟩ := hv
  have C : CT g RX4 cX4_isFull 2 (Cond.code yX4_isFull cX4_isFull 2 (some .boolean) :: TB) p s m _ meth c := pg_ct (Tw := []) B hml hH0 hkk0
  have hr := B.returns
  have hH : HS g s s.heap [] h := ⟨hH0, va_S.rf⟩
  have hl := lv_entry ([.ref (gB g + a0), .int x1]) (n := 2) (Nat.le_of_ble_eq_true rfl)
  rw [lg_entry_eq]
  generalize (lg_sl ([.ref (gB g + a0), .int x1]) ++ List.replicate (2 - (lg_sl ([.ref (gB g + a0), .int x1])).length) Slot.unset).toArray = ls at hl ⊢
  have hl : lv_has ls 2 [(0, .ref (gB g + a0)), (1, .int x1)] := hl
  show W p l e (rmD 0 0 0) _ _ _ _ _ _ _ _ _ _ _ _
  unfold mX4_isFull at hf
  obtain ⟨hO, hf⟩ := oO_sp hf
  obtain ⟨⟨hx, hb, hml, hown, hts⟩, htb, hlk, hkk, hbs⟩ := id C
  refine lv_iload_n hx hb dX4_isFull_0 rfl (lv_at hl 1 rfl) ?_
  by_cases c0 : x1 = (0 : Int32)
  · have hf := (if_pos c0).symm.trans hf
    refine lv_tableIn (off := 47) (tgt := 48) hx hb dX4_isFull_1 (by rw [c0]; decide) (by rw [c0]; decide) (by rw [c0]; decide) (by decide) ?_
    refine lv_aload_n hx hb dX4_isFull_48 rfl (lv_at hl 0 rfl) ?_
    refine pg_gR C hH fl_X4_31 hf dX4_isFull_49 (fun v49 hf => ?_)
    refine pg_gR C hH fl_X4_76 hf dX4_isFull_52 (fun v52 hf => ?_)
    refine lv_iconst (v := (0 : Int32)) hx hb dX4_isFull_55 (by decide) ?_
    refine pg_aI C hH hf dX4_isFull_56 (fun v56 hf => ?_)
    refine lv_bipush (v := (6 : Int32)) hx hb dX4_isFull_57 (by decide) ?_
    refine lv_icmp_lt (tgt := 66) hx hb dX4_isFull_59 (by decide) (fun cn => ?_) (fun cn => ?_)
    · have hf := (if_pos cn).symm.trans hf
      refine lv_iconst (v := (0 : Int32)) hx hb dX4_isFull_66 (by decide) ?_
      exact pg_zret C hr hH hf dX4_isFull_67
    · have hf := (if_neg cn).symm.trans hf
      refine lv_iconst (v := (1 : Int32)) hx hb dX4_isFull_62 (by decide) ?_
      refine lv_goto (tgt := 67) hx hb dX4_isFull_63 (by decide) ?_
      exact pg_zret C hr hH hf dX4_isFull_67
  · have hf := (if_neg c0).symm.trans hf
    by_cases c1 : x1 = (1 : Int32)
    · have hf := (if_pos c1).symm.trans hf
      refine lv_tableIn (off := 67) (tgt := 68) hx hb dX4_isFull_1 (by rw [c1]; decide) (by rw [c1]; decide) (by rw [c1]; decide) (by decide) ?_
      refine lv_aload_n hx hb dX4_isFull_68 rfl (lv_at hl 0 rfl) ?_
      refine pg_gR C hH fl_X4_31 hf dX4_isFull_69 (fun v69 hf => ?_)
      refine pg_gR C hH fl_X4_76 hf dX4_isFull_72 (fun v72 hf => ?_)
      refine lv_bipush (v := (13 : Int32)) hx hb dX4_isFull_75 (by decide) ?_
      refine pg_aI C hH hf dX4_isFull_77 (fun v77 hf => ?_)
      refine lv_bipush (v := (6 : Int32)) hx hb dX4_isFull_78 (by decide) ?_
      refine lv_icmp_lt (tgt := 87) hx hb dX4_isFull_80 (by decide) (fun cn => ?_) (fun cn => ?_)
      · have hf := (if_pos cn).symm.trans hf
        refine lv_iconst (v := (0 : Int32)) hx hb dX4_isFull_87 (by decide) ?_
        exact pg_zret C hr hH hf dX4_isFull_88
      · have hf := (if_neg cn).symm.trans hf
        refine lv_iconst (v := (1 : Int32)) hx hb dX4_isFull_83 (by decide) ?_
        refine lv_goto (tgt := 88) hx hb dX4_isFull_84 (by decide) ?_
        exact pg_zret C hr hH hf dX4_isFull_88
    · have hf := (if_neg c1).symm.trans hf
      by_cases c2 : x1 = (2 : Int32)
      · have hf := (if_pos c2).symm.trans hf
        refine lv_tableIn (off := 88) (tgt := 89) hx hb dX4_isFull_1 (by rw [c2]; decide) (by rw [c2]; decide) (by rw [c2]; decide) (by decide) ?_
        refine lv_aload_n hx hb dX4_isFull_89 rfl (lv_at hl 0 rfl) ?_
        refine pg_gR C hH fl_X4_31 hf dX4_isFull_90 (fun v90 hf => ?_)
        refine pg_gR C hH fl_X4_76 hf dX4_isFull_93 (fun v93 hf => ?_)
        refine lv_iconst (v := (1 : Int32)) hx hb dX4_isFull_96 (by decide) ?_
        refine pg_aI C hH hf dX4_isFull_97 (fun v97 hf => ?_)
        refine lv_bipush (v := (6 : Int32)) hx hb dX4_isFull_98 (by decide) ?_
        refine lv_icmp_lt (tgt := 107) hx hb dX4_isFull_100 (by decide) (fun cn => ?_) (fun cn => ?_)
        · have hf := (if_pos cn).symm.trans hf
          refine lv_iconst (v := (0 : Int32)) hx hb dX4_isFull_107 (by decide) ?_
          exact pg_zret C hr hH hf dX4_isFull_108
        · have hf := (if_neg cn).symm.trans hf
          refine lv_iconst (v := (1 : Int32)) hx hb dX4_isFull_103 (by decide) ?_
          refine lv_goto (tgt := 108) hx hb dX4_isFull_104 (by decide) ?_
          exact pg_zret C hr hH hf dX4_isFull_108
      · have hf := (if_neg c2).symm.trans hf
        by_cases c3 : x1 = (3 : Int32)
        · have hf := (if_pos c3).symm.trans hf
          refine lv_tableIn (off := 108) (tgt := 109) hx hb dX4_isFull_1 (by rw [c3]; decide) (by rw [c3]; decide) (by rw [c3]; decide) (by decide) ?_
          refine lv_aload_n hx hb dX4_isFull_109 rfl (lv_at hl 0 rfl) ?_
          refine pg_gR C hH fl_X4_31 hf dX4_isFull_110 (fun v110 hf => ?_)
          refine pg_gR C hH fl_X4_76 hf dX4_isFull_113 (fun v113 hf => ?_)
          refine lv_iconst (v := (2 : Int32)) hx hb dX4_isFull_116 (by decide) ?_
          refine pg_aI C hH hf dX4_isFull_117 (fun v117 hf => ?_)
          refine lv_iconst (v := (4 : Int32)) hx hb dX4_isFull_118 (by decide) ?_
          refine lv_icmp_lt (tgt := 126) hx hb dX4_isFull_119 (by decide) (fun cn => ?_) (fun cn => ?_)
          · have hf := (if_pos cn).symm.trans hf
            refine lv_iconst (v := (0 : Int32)) hx hb dX4_isFull_126 (by decide) ?_
            exact pg_zret C hr hH hf dX4_isFull_127
          · have hf := (if_neg cn).symm.trans hf
            refine lv_iconst (v := (1 : Int32)) hx hb dX4_isFull_122 (by decide) ?_
            refine lv_goto (tgt := 127) hx hb dX4_isFull_123 (by decide) ?_
            exact pg_zret C hr hH hf dX4_isFull_127
        · have hf := (if_neg c3).symm.trans hf
          by_cases c4 : x1 = (4 : Int32)
          · have hf := (if_pos c4).symm.trans hf
            refine lv_tableIn (off := 127) (tgt := 128) hx hb dX4_isFull_1 (by rw [c4]; decide) (by rw [c4]; decide) (by rw [c4]; decide) (by decide) ?_
            refine lv_aload_n hx hb dX4_isFull_128 rfl (lv_at hl 0 rfl) ?_
            refine pg_gR C hH fl_X4_31 hf dX4_isFull_129 (fun v129 hf => ?_)
            refine pg_gR C hH fl_X4_76 hf dX4_isFull_132 (fun v132 hf => ?_)
            refine lv_iconst (v := (3 : Int32)) hx hb dX4_isFull_135 (by decide) ?_
            refine pg_aI C hH hf dX4_isFull_136 (fun v136 hf => ?_)
            refine lv_bipush (v := (10 : Int32)) hx hb dX4_isFull_137 (by decide) ?_
            refine lv_icmp_lt (tgt := 146) hx hb dX4_isFull_139 (by decide) (fun cn => ?_) (fun cn => ?_)
            · have hf := (if_pos cn).symm.trans hf
              refine lv_iconst (v := (0 : Int32)) hx hb dX4_isFull_146 (by decide) ?_
              exact pg_zret C hr hH hf dX4_isFull_147
            · have hf := (if_neg cn).symm.trans hf
              refine lv_iconst (v := (1 : Int32)) hx hb dX4_isFull_142 (by decide) ?_
              refine lv_goto (tgt := 147) hx hb dX4_isFull_143 (by decide) ?_
              exact pg_zret C hr hH hf dX4_isFull_147
          · have hf := (if_neg c4).symm.trans hf
            by_cases c5 : x1 = (5 : Int32)
            · have hf := (if_pos c5).symm.trans hf
              refine lv_tableIn (off := 147) (tgt := 148) hx hb dX4_isFull_1 (by rw [c5]; decide) (by rw [c5]; decide) (by rw [c5]; decide) (by decide) ?_
              refine lv_aload_n hx hb dX4_isFull_148 rfl (lv_at hl 0 rfl) ?_
              refine pg_gR C hH fl_X4_31 hf dX4_isFull_149 (fun v149 hf => ?_)
              refine pg_gR C hH fl_X4_76 hf dX4_isFull_152 (fun v152 hf => ?_)
              refine lv_iconst (v := (4 : Int32)) hx hb dX4_isFull_155 (by decide) ?_
              refine pg_aI C hH hf dX4_isFull_156 (fun v156 hf => ?_)
              refine lv_bipush (v := (12 : Int32)) hx hb dX4_isFull_157 (by decide) ?_
              refine lv_icmp_lt (tgt := 166) hx hb dX4_isFull_159 (by decide) (fun cn => ?_) (fun cn => ?_)
              · have hf := (if_pos cn).symm.trans hf
                refine lv_iconst (v := (0 : Int32)) hx hb dX4_isFull_166 (by decide) ?_
                exact pg_zret C hr hH hf dX4_isFull_167
              · have hf := (if_neg cn).symm.trans hf
                refine lv_iconst (v := (1 : Int32)) hx hb dX4_isFull_162 (by decide) ?_
                refine lv_goto (tgt := 167) hx hb dX4_isFull_163 (by decide) ?_
                exact pg_zret C hr hH hf dX4_isFull_167
            · have hf := (if_neg c5).symm.trans hf
              by_cases c6 : x1 = (6 : Int32)
              · have hf := (if_pos c6).symm.trans hf
                refine lv_tableIn (off := 186) (tgt := 187) hx hb dX4_isFull_1 (by rw [c6]; decide) (by rw [c6]; decide) (by rw [c6]; decide) (by decide) ?_
                refine lv_iconst (v := (0 : Int32)) hx hb dX4_isFull_187 (by decide) ?_
                exact pg_zret C hr hH hf dX4_isFull_188
              · have hf := (if_neg c6).symm.trans hf
                by_cases c7 : x1 = (7 : Int32)
                · have hf := (if_pos c7).symm.trans hf
                  refine lv_tableIn (off := 167) (tgt := 168) hx hb dX4_isFull_1 (by rw [c7]; decide) (by rw [c7]; decide) (by rw [c7]; decide) (by decide) ?_
                  refine lv_aload_n hx hb dX4_isFull_168 rfl (lv_at hl 0 rfl) ?_
                  refine pg_gR C hH fl_X4_31 hf dX4_isFull_169 (fun v169 hf => ?_)
                  refine pg_gR C hH fl_X4_76 hf dX4_isFull_172 (fun v172 hf => ?_)
                  refine lv_iconst (v := (5 : Int32)) hx hb dX4_isFull_175 (by decide) ?_
                  refine pg_aI C hH hf dX4_isFull_176 (fun v176 hf => ?_)
                  refine lv_iconst (v := (4 : Int32)) hx hb dX4_isFull_177 (by decide) ?_
                  refine lv_icmp_lt (tgt := 185) hx hb dX4_isFull_178 (by decide) (fun cn => ?_) (fun cn => ?_)
                  · have hf := (if_pos cn).symm.trans hf
                    refine lv_iconst (v := (0 : Int32)) hx hb dX4_isFull_185 (by decide) ?_
                    exact pg_zret C hr hH hf dX4_isFull_186
                  · have hf := (if_neg cn).symm.trans hf
                    refine lv_iconst (v := (1 : Int32)) hx hb dX4_isFull_181 (by decide) ?_
                    refine lv_goto (tgt := 186) hx hb dX4_isFull_182 (by decide) ?_
                    exact pg_zret C hr hH hf dX4_isFull_186
                · have hf := (if_neg c7).symm.trans hf
                  refine lv_tableOut (tgt := 187) hx hb dX4_isFull_1 (by have q0 := tb_n (v := 0) (by decide) c0; have q1 := tb_n (v := 1) (by decide) c1; have q2 := tb_n (v := 2) (by decide) c2; have q3 := tb_n (v := 3) (by decide) c3; have q4 := tb_n (v := 4) (by decide) c4; have q5 := tb_n (v := 5) (by decide) c5; have q6 := tb_n (v := 6) (by decide) c6; have q7 := tb_n (v := 7) (by decide) c7; omega) (by decide) ?_
                  refine lv_iconst (v := (0 : Int32)) hx hb dX4_isFull_187 (by decide) ?_
                  exact pg_zret C hr hH hf dX4_isFull_188
end WK1
