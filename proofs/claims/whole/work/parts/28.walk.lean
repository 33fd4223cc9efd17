/-! ===== 28: walks (by program) ===== -/
section WK8
variable {p : Program} {l : Launch} {e : Env} {s : State} {m : MethodId} {args : Array Value} {below : List Frame} {meth : Method} {c : Code} {g : GD}
set_option maxHeartbeats 4000000 in
set_option maxRecDepth 100000 in
theorem c_X10_turn {l : Launch} {g : GD} {h : PH} {a0 : Nat} {r : Int32} {h' : PH} (hf : mX10_turn h a0 = some (r, h')) : Met l yX10_turn (Cond.code yX10_turn cX10_turn 1 (some .int) :: TB) (rmD 2 0 0) (PcH g [.ref (gB g + a0)] h) (QcI g r h') 0 0 (aB g) := by
  refine Met.ofW (cc := cX10_turn) (maxL := 1) (ret := some .int) (by decide) rfl ?_
  intro p e s m args below meth c s₁ B hml hv
  obtain ⟨rfl, hH0, hkk0⟩ := hv
  have C : CT g RX10 cX10_turn 1 (Cond.code yX10_turn cX10_turn 1 (some .int) :: TB) p s m _ meth c := pg_ct (Tw := []) B hml hH0 hkk0
  have hr := B.returns
  have hH : HS g s s.heap [] h := ⟨hH0, va_S.rf⟩
  have hl := lv_entry ([.ref (gB g + a0)]) (n := 1) (Nat.le_of_ble_eq_true rfl)
  rw [lg_entry_eq]
  generalize (lg_sl ([.ref (gB g + a0)]) ++ List.replicate (1 - (lg_sl ([.ref (gB g + a0)])).length) Slot.unset).toArray = ls at hl ⊢
  have hl : lv_has ls 1 [(0, .ref (gB g + a0))] := hl
  show W p l e (rmD 2 0 0) _ _ _ _ _ _ _ _ _ _ _ _
  unfold mX10_turn at hf
  obtain ⟨hO, hf⟩ := oO_sp hf
  obtain ⟨⟨hx, hb, hml, hown, hts⟩, htb, hlk, hkk, hbs⟩ := id C
  refine lv_aload_n hx hb dX10_turn_0 rfl (lv_at hl 0 rfl) ?_
  refine lv_iconst (v := (0 : Int32)) hx hb dX10_turn_1 (by decide) ?_
  refine pg_pI C hH fl_X10_1 fm_10_0 hf dX10_turn_2 (fun H locs h2 hH hf => ?_)
  refine lv_aload_n hx hb dX10_turn_5 rfl (lv_at hl 0 rfl) ?_
  refine pg_Vv (As := []) C hH mi_X10_acts vl_X10_453 (q := (RX10, TX10, 34)) (ci := 10) rfl rfl hf (fun _ e1 => (oO_sp e1).1) (fun _ e1 => c_X10_acts e1) rfl rfl hl.1 (Nat.le_of_ble_eq_true rfl) ⟨Nat.le_of_ble_eq_true rfl, Nat.le_of_ble_eq_true rfl⟩ ⟨Nat.zero_le _, Nat.zero_le _⟩ dX10_turn_6 (fun H locs h6 hH hf => ?_)
  refine lv_aload_n hx hb dX10_turn_9 rfl (lv_at hl 0 rfl) ?_
  refine pg_gR C hH fl_X10_13 hf dX10_turn_10 (fun v10 hf => ?_)
  refine lv_bipush (v := (10 : Int32)) hx hb dX10_turn_13 (by decide) ?_
  refine lv_iconst (v := (1 : Int32)) hx hb dX10_turn_15 (by decide) ?_
  refine lv_aload_n hx hb dX10_turn_16 rfl (lv_at hl 0 rfl) ?_
  refine pg_gR C hH fl_X10_13 hf dX10_turn_17 (fun v17 hf => ?_)
  refine lv_bipush (v := (10 : Int32)) hx hb dX10_turn_20 (by decide) ?_
  refine pg_aI C hH hf dX10_turn_22 (fun v22 hf => ?_)
  refine lv_isub hx hb dX10_turn_23 ?_
  refine pg_sI C hH hf dX10_turn_24 (fun H locs h24 hH hf => ?_)
  refine lv_aload_n hx hb dX10_turn_25 rfl (lv_at hl 0 rfl) ?_
  refine pg_gR C hH fl_X10_13 hf dX10_turn_26 (fun v26 hf => ?_)
  refine lv_bipush (v := (10 : Int32)) hx hb dX10_turn_29 (by decide) ?_
  refine pg_aI C hH hf dX10_turn_31 (fun v31 hf => ?_)
  exact pg_iret C hr hH hf dX10_turn_32
set_option maxHeartbeats 4000000 in
set_option maxRecDepth 100000 in
theorem c_X10_resell {l : Launch} {g : GD} {h : PH} {a0 : Nat} {x1 : Int32} {x2 : Int32} {x3 : Int32} {x4 : Int32} {r : Int32} {h' : PH} (hf : mX10_resell h a0 x1 x2 x3 x4 = some (r, h')) : Met l yX10_resell (Cond.code yX10_resell cX10_resell 6 (some .int) :: TB) (rmD 2 0 0) (PcH g [.ref (gB g + a0), .int x1, .int x2, .int x3, .int x4] h) (QcI g r h') 0 0 (aB g) := by
  refine Met.ofW (cc := cX10_resell) (maxL := 6) (ret := some .int) (by decide) rfl ?_
  intro p e s m args below meth c s₁ B hml hv
  obtain ⟨rfl, hH0, hkk0⟩ := hv
  have C : CT g RX10 cX10_resell 6 (Cond.code yX10_resell cX10_resell 6 (some .int) :: TB) p s m _ meth c := pg_ct (Tw := []) B hml hH0 hkk0
  have hr := B.returns
  have hH : HS g s s.heap [] h := ⟨hH0, va_S.rf⟩
  have hl := lv_entry ([.ref (gB g + a0), .int x1, .int x2, .int x3, .int x4]) (n := 6) (Nat.le_of_ble_eq_true rfl)
  rw [lg_entry_eq]
  generalize (lg_sl ([.ref (gB g + a0), .int x1, .int x2, .int x3, .int x4]) ++ List.replicate (6 - (lg_sl ([.ref (gB g + a0), .int x1, .int x2, .int x3, .int x4])).length) Slot.unset).toArray = ls at hl ⊢
  have hl : lv_has ls 6 [(0, .ref (gB g + a0)), (1, .int x1), (2, .int x2), (3, .int x3), (4, .int x4)] := hl
  show W p l e (rmD 2 0 0) _ _ _ _ _ _ _ _ _ _ _ _
  unfold mX10_resell at hf
  obtain ⟨hO, hf⟩ := oO_sp hf
  obtain ⟨⟨hx, hb, hml, hown, hts⟩, htb, hlk, hkk, hbs⟩ := id C
  refine lv_aload_n hx hb dX10_resell_0 rfl (lv_at hl 0 rfl) ?_
  refine lv_iconst (v := (0 : Int32)) hx hb dX10_resell_1 (by decide) ?_
  refine pg_pI C hH fl_X10_1 fm_10_0 hf dX10_resell_2 (fun H locs h2 hH hf => ?_)
  refine lv_aload_n hx hb dX10_resell_5 rfl (lv_at hl 0 rfl) ?_
  refine pg_gR C hH fl_X10_13 hf dX10_resell_6 (fun v6 hf => ?_)
  refine lv_iconst (v := (1 : Int32)) hx hb dX10_resell_9 (by decide) ?_
  refine pg_aI C hH hf dX10_resell_10 (fun v10 hf => ?_)
  refine lv_iload_n hx hb dX10_resell_11 rfl (lv_at hl 1 rfl) ?_
  refine pg_Si (As := [.int v10, .int x1]) C hH mi_X10_isIn sl_X10_278 hf (fun _ _ e1 => c_X10_isIn e1) rfl rfl hl.1 (Nat.le_of_ble_eq_true rfl) ⟨Nat.le_of_ble_eq_true rfl, Nat.le_of_ble_eq_true rfl⟩ ⟨Nat.zero_le _, Nat.zero_le _⟩ dX10_resell_12 (fun H locs v12 h12 hH hf => ?_)
  refine lv_if_eq (tgt := 66) hx hb dX10_resell_15 (by decide) (fun cn => ?_) (fun cn => ?_)
  · have hf := (if_pos cn).symm.trans hf
    refine lv_iconst (v := (-1 : Int32)) hx hb dX10_resell_66 (by decide) ?_
    exact pg_iret C hr hH hf dX10_resell_67
  · have hf := (if_neg cn).symm.trans hf
    refine lv_iload_n hx hb dX10_resell_18 rfl (lv_at hl 2 rfl) ?_
    refine lv_i2l (v := (Int32.toInt64 x2)) hx hb dX10_resell_19 rfl ?_
    refine lv_lconst (v := (1 : Int64)) hx hb dX10_resell_20 (by decide) ?_
    refine lv_ldc2 (v := (9999 : Int64)) hx hb hown (hts _ (htb _ kl_X10_456)) dX10_resell_21 ?_
    refine pg_Si (As := [.long (Int32.toInt64 x2), .long (1 : Int64), .long (9999 : Int64)]) C hH mi_X10_within sl_X10_97 hf (fun _ _ e1 => c_X10_within e1) rfl rfl hl.1 (Nat.le_of_ble_eq_true rfl) ⟨Nat.le_of_ble_eq_true rfl, Nat.le_of_ble_eq_true rfl⟩ ⟨Nat.zero_le _, Nat.zero_le _⟩ dX10_resell_24 (fun H locs v24 h24 hH hf => ?_)
    refine lv_if_eq (tgt := 66) hx hb dX10_resell_27 (by decide) (fun cn => ?_) (fun cn => ?_)
    · have hf := (if_pos cn).symm.trans hf
      refine lv_iconst (v := (-1 : Int32)) hx hb dX10_resell_66 (by decide) ?_
      exact pg_iret C hr hH hf dX10_resell_67
    · have hf := (if_neg cn).symm.trans hf
      refine lv_iload_n hx hb dX10_resell_30 rfl (lv_at hl 3 rfl) ?_
      refine lv_i2l (v := (Int32.toInt64 x3)) hx hb dX10_resell_31 rfl ?_
      refine lv_lconst (v := (1 : Int64)) hx hb dX10_resell_32 (by decide) ?_
      refine lv_ldc2 (v := (9999 : Int64)) hx hb hown (hts _ (htb _ kl_X10_456)) dX10_resell_33 ?_
      refine pg_Si (As := [.long (Int32.toInt64 x3), .long (1 : Int64), .long (9999 : Int64)]) C hH mi_X10_within sl_X10_97 hf (fun _ _ e1 => c_X10_within e1) rfl rfl hl.1 (Nat.le_of_ble_eq_true rfl) ⟨Nat.le_of_ble_eq_true rfl, Nat.le_of_ble_eq_true rfl⟩ ⟨Nat.zero_le _, Nat.zero_le _⟩ dX10_resell_36 (fun H locs v36 h36 hH hf => ?_)
      refine lv_if_eq (tgt := 66) hx hb dX10_resell_39 (by decide) (fun cn => ?_) (fun cn => ?_)
      · have hf := (if_pos cn).symm.trans hf
        refine lv_iconst (v := (-1 : Int32)) hx hb dX10_resell_66 (by decide) ?_
        exact pg_iret C hr hH hf dX10_resell_67
      · have hf := (if_neg cn).symm.trans hf
        refine lv_iload hx hb dX10_resell_42 (lv_at hl 4 rfl) ?_
        refine lv_i2l (v := (Int32.toInt64 x4)) hx hb dX10_resell_44 rfl ?_
        refine lv_lconst (v := (0 : Int64)) hx hb dX10_resell_45 (by decide) ?_
        refine lv_ldc2 (v := (999 : Int64)) hx hb hown (hts _ (htb _ kl_X10_461)) dX10_resell_46 ?_
        refine pg_Si (As := [.long (Int32.toInt64 x4), .long (0 : Int64), .long (999 : Int64)]) C hH mi_X10_within sl_X10_97 hf (fun _ _ e1 => c_X10_within e1) rfl rfl hl.1 (Nat.le_of_ble_eq_true rfl) ⟨Nat.le_of_ble_eq_true rfl, Nat.le_of_ble_eq_true rfl⟩ ⟨Nat.zero_le _, Nat.zero_le _⟩ dX10_resell_49 (fun H locs v49 h49 hH hf => ?_)
        refine lv_if_eq (tgt := 66) hx hb dX10_resell_52 (by decide) (fun cn => ?_) (fun cn => ?_)
        · have hf := (if_pos cn).symm.trans hf
          refine lv_iconst (v := (-1 : Int32)) hx hb dX10_resell_66 (by decide) ?_
          exact pg_iret C hr hH hf dX10_resell_67
        · have hf := (if_neg cn).symm.trans hf
          refine lv_aload_n hx hb dX10_resell_55 rfl (lv_at hl 0 rfl) ?_
          refine pg_gR C hH fl_X10_13 hf dX10_resell_56 (fun v56 hf => ?_)
          refine lv_iconst (v := (4 : Int32)) hx hb dX10_resell_59 (by decide) ?_
          refine pg_aI C hH hf dX10_resell_60 (fun v60 hf => ?_)
          refine lv_bipush (v := (12 : Int32)) hx hb dX10_resell_61 (by decide) ?_
          refine lv_icmp_ne (tgt := 68) hx hb dX10_resell_63 (by decide) (fun cn => ?_) (fun cn => ?_)
          · have hf := (if_neg cn).symm.trans hf
            refine lv_aload_n hx hb dX10_resell_68 rfl (lv_at hl 0 rfl) ?_
            refine pg_Vv (As := []) C hH mi_X10_acts vl_X10_453 (q := (RX10, TX10, 34)) (ci := 10) rfl rfl hf (fun _ e1 => (oO_sp e1).1) (fun _ e1 => c_X10_acts e1) rfl rfl hl.1 (Nat.le_of_ble_eq_true rfl) ⟨Nat.le_of_ble_eq_true rfl, Nat.le_of_ble_eq_true rfl⟩ ⟨Nat.zero_le _, Nat.zero_le _⟩ dX10_resell_69 (fun H locs h69 hH hf => ?_)
            refine lv_sipush (v := (176 : Int32)) hx hb dX10_resell_72 (by decide) ?_
            refine lv_iconst (v := (4 : Int32)) hx hb dX10_resell_75 (by decide) ?_
            refine lv_aload_n hx hb dX10_resell_76 rfl (lv_at hl 0 rfl) ?_
            refine pg_gR C hH fl_X10_13 hf dX10_resell_77 (fun v77 hf => ?_)
            refine lv_iconst (v := (4 : Int32)) hx hb dX10_resell_80 (by decide) ?_
            refine pg_aI C hH hf dX10_resell_81 (fun v81 hf => ?_)
            refine lv_imul hx hb dX10_resell_82 ?_
            refine lv_iadd hx hb dX10_resell_83 ?_
            refine lv_istore (lv' := [(5, .int ((176 : Int32) + ((4 : Int32) * v81))), (0, .ref (gB g + a0)), (1, .int x1), (2, .int x2), (3, .int x3), (4, .int x4)]) hx hb dX10_resell_84 hl (by decide) rfl (fun ls hl => ?_)
            refine lv_aload_n hx hb dX10_resell_86 rfl (lv_at hl 1 rfl) ?_
            refine pg_gR C hH fl_X10_13 hf dX10_resell_87 (fun v87 hf => ?_)
            refine lv_iload hx hb dX10_resell_90 (lv_at hl 0 rfl) ?_
            refine lv_iconst (v := (0 : Int32)) hx hb dX10_resell_92 (by decide) ?_
            refine lv_iadd hx hb dX10_resell_93 ?_
            refine lv_iload_n hx hb dX10_resell_94 rfl (lv_at hl 2 rfl) ?_
            refine pg_sI C hH hf dX10_resell_95 (fun H locs h95 hH hf => ?_)
            refine lv_aload_n hx hb dX10_resell_96 rfl (lv_at hl 1 rfl) ?_
            refine pg_gR C hH fl_X10_13 hf dX10_resell_97 (fun v97 hf => ?_)
            refine lv_iload hx hb dX10_resell_100 (lv_at hl 0 rfl) ?_
            refine lv_iconst (v := (1 : Int32)) hx hb dX10_resell_102 (by decide) ?_
            refine lv_iadd hx hb dX10_resell_103 ?_
            refine lv_iload_n hx hb dX10_resell_104 rfl (lv_at hl 3 rfl) ?_
            refine pg_sI C hH hf dX10_resell_105 (fun H locs h105 hH hf => ?_)
            refine lv_aload_n hx hb dX10_resell_106 rfl (lv_at hl 1 rfl) ?_
            refine pg_gR C hH fl_X10_13 hf dX10_resell_107 (fun v107 hf => ?_)
            refine lv_iload hx hb dX10_resell_110 (lv_at hl 0 rfl) ?_
            refine lv_iconst (v := (2 : Int32)) hx hb dX10_resell_112 (by decide) ?_
            refine lv_iadd hx hb dX10_resell_113 ?_
            refine lv_iload_n hx hb dX10_resell_114 rfl (lv_at hl 4 rfl) ?_
            refine pg_sI C hH hf dX10_resell_115 (fun H locs h115 hH hf => ?_)
            refine lv_aload_n hx hb dX10_resell_116 rfl (lv_at hl 1 rfl) ?_
            refine pg_gR C hH fl_X10_13 hf dX10_resell_117 (fun v117 hf => ?_)
            refine lv_iload hx hb dX10_resell_120 (lv_at hl 0 rfl) ?_
            refine lv_iconst (v := (3 : Int32)) hx hb dX10_resell_122 (by decide) ?_
            refine lv_iadd hx hb dX10_resell_123 ?_
            refine lv_iload hx hb dX10_resell_124 (lv_at hl 5 rfl) ?_
            refine pg_sI C hH hf dX10_resell_126 (fun H locs h126 hH hf => ?_)
            refine lv_aload_n hx hb dX10_resell_127 rfl (lv_at hl 1 rfl) ?_
            refine pg_gR C hH fl_X10_13 hf dX10_resell_128 (fun v128 hf => ?_)
            refine lv_iconst (v := (4 : Int32)) hx hb dX10_resell_131 (by decide) ?_
            refine lv_dup2_11 hx hb dX10_resell_132 rfl rfl ?_
            refine pg_aI C hH hf dX10_resell_133 (fun v133 hf => ?_)
            refine lv_iconst (v := (1 : Int32)) hx hb dX10_resell_134 (by decide) ?_
            refine lv_iadd hx hb dX10_resell_135 ?_
            refine pg_sI C hH hf dX10_resell_136 (fun H locs h136 hH hf => ?_)
            refine lv_aload_n hx hb dX10_resell_137 rfl (lv_at hl 1 rfl) ?_
            refine pg_gR C hH fl_X10_13 hf dX10_resell_138 (fun v138 hf => ?_)
            refine lv_iconst (v := (4 : Int32)) hx hb dX10_resell_141 (by decide) ?_
            refine pg_aI C hH hf dX10_resell_142 (fun v142 hf => ?_)
            refine lv_iconst (v := (1 : Int32)) hx hb dX10_resell_143 (by decide) ?_
            refine lv_isub hx hb dX10_resell_144 ?_
            exact pg_iret C hr hH hf dX10_resell_145
          · have hf := (if_pos cn).symm.trans hf
            refine lv_iconst (v := (-1 : Int32)) hx hb dX10_resell_66 (by decide) ?_
            exact pg_iret C hr hH hf dX10_resell_67
set_option maxHeartbeats 4000000 in
set_option maxRecDepth 100000 in
theorem c_X10_spread {l : Launch} {g : GD} {h : PH} {a0 : Nat} {x1 : Int32} {x2 : Int32} {r : Int32} {h' : PH} (hf : mX10_spread h a0 x1 x2 = some (r, h')) : Met l yX10_spread (Cond.code yX10_spread cX10_spread 3 (some .int) :: TB) (rmD 3 0 0) (PcH g [.ref (gB g + a0), .int x1, .int x2] h) (QcI g r h') 0 0 (aB g) := by
  refine Met.ofW (cc := cX10_spread) (maxL := 3) (ret := some .int) (by decide) rfl ?_
  intro p e s m args below meth c s₁ B hml hv
  obtain ⟨rfl, hH0, hkk0⟩ := hv
  have C : CT g RX10 cX10_spread 3 (Cond.code yX10_spread cX10_spread 3 (some .int) :: TB) p s m _ meth c := pg_ct (Tw := []) B hml hH0 hkk0
  have hr := B.returns
  have hH : HS g s s.heap [] h := ⟨hH0, va_S.rf⟩
  have hl := lv_entry ([.ref (gB g + a0), .int x1, .int x2]) (n := 3) (Nat.le_of_ble_eq_true rfl)
  rw [lg_entry_eq]
  generalize (lg_sl ([.ref (gB g + a0), .int x1, .int x2]) ++ List.replicate (3 - (lg_sl ([.ref (gB g + a0), .int x1, .int x2])).length) Slot.unset).toArray = ls at hl ⊢
  have hl : lv_has ls 3 [(0, .ref (gB g + a0)), (1, .int x1), (2, .int x2)] := hl
  show W p l e (rmD 3 0 0) _ _ _ _ _ _ _ _ _ _ _ _
  unfold mX10_spread at hf
  obtain ⟨hO, hf⟩ := oO_sp hf
  obtain ⟨⟨hx, hb, hml, hown, hts⟩, htb, hlk, hkk, hbs⟩ := id C
  refine lv_aload_n hx hb dX10_spread_0 rfl (lv_at hl 0 rfl) ?_
  refine lv_iconst (v := (0 : Int32)) hx hb dX10_spread_1 (by decide) ?_
  refine pg_pI C hH fl_X10_1 fm_10_0 hf dX10_spread_2 (fun H locs h2 hH hf => ?_)
  refine lv_aload_n hx hb dX10_spread_5 rfl (lv_at hl 0 rfl) ?_
  refine pg_gR C hH fl_X10_13 hf dX10_spread_6 (fun v6 hf => ?_)
  refine lv_iconst (v := (2 : Int32)) hx hb dX10_spread_9 (by decide) ?_
  refine pg_aI C hH hf dX10_spread_10 (fun v10 hf => ?_)
  refine lv_iload_n hx hb dX10_spread_11 rfl (lv_at hl 1 rfl) ?_
  refine pg_Si (As := [.int v10, .int x1]) C hH mi_X10_isIn sl_X10_278 hf (fun _ _ e1 => c_X10_isIn e1) rfl rfl hl.1 (Nat.le_of_ble_eq_true rfl) ⟨Nat.le_of_ble_eq_true rfl, Nat.le_of_ble_eq_true rfl⟩ ⟨Nat.zero_le _, Nat.zero_le _⟩ dX10_spread_12 (fun H locs v12 h12 hH hf => ?_)
  refine lv_if_eq (tgt := 46) hx hb dX10_spread_15 (by decide) (fun cn => ?_) (fun cn => ?_)
  · have hf := (if_pos cn).symm.trans hf
    refine lv_iconst (v := (-1 : Int32)) hx hb dX10_spread_46 (by decide) ?_
    exact pg_iret C hr hH hf dX10_spread_47
  · have hf := (if_neg cn).symm.trans hf
    refine lv_iload_n hx hb dX10_spread_18 rfl (lv_at hl 2 rfl) ?_
    refine lv_i2l (v := (Int32.toInt64 x2)) hx hb dX10_spread_19 rfl ?_
    refine lv_lconst (v := (0 : Int64)) hx hb dX10_spread_20 (by decide) ?_
    refine lv_ldc2 (v := (9999 : Int64)) hx hb hown (hts _ (htb _ kl_X10_456)) dX10_spread_21 ?_
    refine pg_Si (As := [.long (Int32.toInt64 x2), .long (0 : Int64), .long (9999 : Int64)]) C hH mi_X10_within sl_X10_97 hf (fun _ _ e1 => c_X10_within e1) rfl rfl hl.1 (Nat.le_of_ble_eq_true rfl) ⟨Nat.le_of_ble_eq_true rfl, Nat.le_of_ble_eq_true rfl⟩ ⟨Nat.zero_le _, Nat.zero_le _⟩ dX10_spread_24 (fun H locs v24 h24 hH hf => ?_)
    refine lv_if_eq (tgt := 46) hx hb dX10_spread_27 (by decide) (fun cn => ?_) (fun cn => ?_)
    · have hf := (if_pos cn).symm.trans hf
      refine lv_iconst (v := (-1 : Int32)) hx hb dX10_spread_46 (by decide) ?_
      exact pg_iret C hr hH hf dX10_spread_47
    · have hf := (if_neg cn).symm.trans hf
      refine lv_aload_n hx hb dX10_spread_30 rfl (lv_at hl 0 rfl) ?_
      refine lv_bipush (v := (48 : Int32)) hx hb dX10_spread_31 (by decide) ?_
      refine lv_iconst (v := (2 : Int32)) hx hb dX10_spread_33 (by decide) ?_
      refine lv_iload_n hx hb dX10_spread_34 rfl (lv_at hl 1 rfl) ?_
      refine lv_imul hx hb dX10_spread_35 ?_
      refine lv_iadd hx hb dX10_spread_36 ?_
      refine lv_iconst (v := (1 : Int32)) hx hb dX10_spread_37 (by decide) ?_
      refine lv_iadd hx hb dX10_spread_38 ?_
      refine lv_iload_n hx hb dX10_spread_39 rfl (lv_at hl 2 rfl) ?_
      refine pg_Vi (As := [.int (((48 : Int32) + ((2 : Int32) * x1)) + (1 : Int32)), .int x2]) C hH mi_X10_sets vl_X10_458 (q := (RX10, TX10, 34)) (ci := 10) rfl rfl hf (fun _ e1 => (oO_sp e1).1) (fun _ _ e1 => c_X10_sets e1) rfl rfl hl.1 (Nat.le_of_ble_eq_true rfl) ⟨Nat.le_of_ble_eq_true rfl, Nat.le_of_ble_eq_true rfl⟩ ⟨Nat.zero_le _, Nat.zero_le _⟩ dX10_spread_40 (fun H locs v40 h40 hH hf => ?_)
      refine lv_goto (tgt := 47) hx hb dX10_spread_43 (by decide) ?_
      exact pg_iret C hr hH hf dX10_spread_47
set_option maxHeartbeats 4000000 in
set_option maxRecDepth 100000 in
theorem c_X10_lessen {l : Launch} {g : GD} {h : PH} {a0 : Nat} {x1 : Int32} {x2 : Int32} {r : Int32} {h' : PH} (hf : mX10_lessen h a0 x1 x2 = some (r, h')) : Met l yX10_lessen (Cond.code yX10_lessen cX10_lessen 3 (some .int) :: TB) (rmD 3 0 0) (PcH g [.ref (gB g + a0), .int x1, .int x2] h) (QcI g r h') 0 0 (aB g) := by
  refine Met.ofW (cc := cX10_lessen) (maxL := 3) (ret := some .int) (by decide) rfl ?_
  intro p e s m args below meth c s₁ B hml hv
  obtain ⟨rfl, hH0, hkk0⟩ := hv
  have C : CT g RX10 cX10_lessen 3 (Cond.code yX10_lessen cX10_lessen 3 (some .int) :: TB) p s m _ meth c := pg_ct (Tw := []) B hml hH0 hkk0
  have hr := B.returns
  have hH : HS g s s.heap [] h := ⟨hH0, va_S.rf⟩
  have hl := lv_entry ([.ref (gB g + a0), .int x1, .int x2]) (n := 3) (Nat.le_of_ble_eq_true rfl)
  rw [lg_entry_eq]
  generalize (lg_sl ([.ref (gB g + a0), .int x1, .int x2]) ++ List.replicate (3 - (lg_sl ([.ref (gB g + a0), .int x1, .int x2])).length) Slot.unset).toArray = ls at hl ⊢
  have hl : lv_has ls 3 [(0, .ref (gB g + a0)), (1, .int x1), (2, .int x2)] := hl
  show W p l e (rmD 3 0 0) _ _ _ _ _ _ _ _ _ _ _ _
  unfold mX10_lessen at hf
  obtain ⟨hO, hf⟩ := oO_sp hf
  obtain ⟨⟨hx, hb, hml, hown, hts⟩, htb, hlk, hkk, hbs⟩ := id C
  refine lv_aload_n hx hb dX10_lessen_0 rfl (lv_at hl 0 rfl) ?_
  refine lv_iconst (v := (0 : Int32)) hx hb dX10_lessen_1 (by decide) ?_
  refine pg_pI C hH fl_X10_1 fm_10_0 hf dX10_lessen_2 (fun H locs h2 hH hf => ?_)
  refine lv_aload_n hx hb dX10_lessen_5 rfl (lv_at hl 0 rfl) ?_
  refine pg_gR C hH fl_X10_13 hf dX10_lessen_6 (fun v6 hf => ?_)
  refine lv_iconst (v := (5 : Int32)) hx hb dX10_lessen_9 (by decide) ?_
  refine pg_aI C hH hf dX10_lessen_10 (fun v10 hf => ?_)
  refine lv_iload_n hx hb dX10_lessen_11 rfl (lv_at hl 1 rfl) ?_
  refine pg_Si (As := [.int v10, .int x1]) C hH mi_X10_isIn sl_X10_278 hf (fun _ _ e1 => c_X10_isIn e1) rfl rfl hl.1 (Nat.le_of_ble_eq_true rfl) ⟨Nat.le_of_ble_eq_true rfl, Nat.le_of_ble_eq_true rfl⟩ ⟨Nat.zero_le _, Nat.zero_le _⟩ dX10_lessen_12 (fun H locs v12 h12 hH hf => ?_)
  refine lv_if_eq (tgt := 47) hx hb dX10_lessen_15 (by decide) (fun cn => ?_) (fun cn => ?_)
  · have hf := (if_pos cn).symm.trans hf
    refine lv_iconst (v := (-1 : Int32)) hx hb dX10_lessen_47 (by decide) ?_
    exact pg_iret C hr hH hf dX10_lessen_48
  · have hf := (if_neg cn).symm.trans hf
    refine lv_iload_n hx hb dX10_lessen_18 rfl (lv_at hl 2 rfl) ?_
    refine lv_i2l (v := (Int32.toInt64 x2)) hx hb dX10_lessen_19 rfl ?_
    refine lv_lconst (v := (0 : Int64)) hx hb dX10_lessen_20 (by decide) ?_
    refine lv_ldc2 (v := (90 : Int64)) hx hb hown (hts _ (htb _ kl_X10_463)) dX10_lessen_21 ?_
    refine pg_Si (As := [.long (Int32.toInt64 x2), .long (0 : Int64), .long (90 : Int64)]) C hH mi_X10_within sl_X10_97 hf (fun _ _ e1 => c_X10_within e1) rfl rfl hl.1 (Nat.le_of_ble_eq_true rfl) ⟨Nat.le_of_ble_eq_true rfl, Nat.le_of_ble_eq_true rfl⟩ ⟨Nat.zero_le _, Nat.zero_le _⟩ dX10_lessen_24 (fun H locs v24 h24 hH hf => ?_)
    refine lv_if_eq (tgt := 47) hx hb dX10_lessen_27 (by decide) (fun cn => ?_) (fun cn => ?_)
    · have hf := (if_pos cn).symm.trans hf
      refine lv_iconst (v := (-1 : Int32)) hx hb dX10_lessen_47 (by decide) ?_
      exact pg_iret C hr hH hf dX10_lessen_48
    · have hf := (if_neg cn).symm.trans hf
      refine lv_aload_n hx hb dX10_lessen_30 rfl (lv_at hl 0 rfl) ?_
      refine lv_sipush (v := (224 : Int32)) hx hb dX10_lessen_31 (by decide) ?_
      refine lv_iconst (v := (2 : Int32)) hx hb dX10_lessen_34 (by decide) ?_
      refine lv_iload_n hx hb dX10_lessen_35 rfl (lv_at hl 1 rfl) ?_
      refine lv_imul hx hb dX10_lessen_36 ?_
      refine lv_iadd hx hb dX10_lessen_37 ?_
      refine lv_iconst (v := (1 : Int32)) hx hb dX10_lessen_38 (by decide) ?_
      refine lv_iadd hx hb dX10_lessen_39 ?_
      refine lv_iload_n hx hb dX10_lessen_40 rfl (lv_at hl 2 rfl) ?_
      refine pg_Vi (As := [.int (((224 : Int32) + ((2 : Int32) * x1)) + (1 : Int32)), .int x2]) C hH mi_X10_sets vl_X10_458 (q := (RX10, TX10, 34)) (ci := 10) rfl rfl hf (fun _ e1 => (oO_sp e1).1) (fun _ _ e1 => c_X10_sets e1) rfl rfl hl.1 (Nat.le_of_ble_eq_true rfl) ⟨Nat.le_of_ble_eq_true rfl, Nat.le_of_ble_eq_true rfl⟩ ⟨Nat.zero_le _, Nat.zero_le _⟩ dX10_lessen_41 (fun H locs v41 h41 hH hf => ?_)
      refine lv_goto (tgt := 48) hx hb dX10_lessen_44 (by decide) ?_
      exact pg_iret C hr hH hf dX10_lessen_48
set_option maxHeartbeats 4000000 in
set_option maxRecDepth 100000 in
theorem c_X10_undo {l : Launch} {g : GD} {h : PH} {a0 : Nat} {r : Int32} {h' : PH} (hf : mX10_undo h a0 = some (r, h')) : Met l yX10_undo (Cond.code yX10_undo cX10_undo 1 (some .int) :: TB) (rmD 1 0 0) (PcH g [.ref (gB g + a0)] h) (QcI g r h') 0 0 (aB g) := by
  refine Met.ofW (cc := cX10_undo) (maxL := 1) (ret := some .int) (by decide) rfl ?_
  intro p e s m args below meth c s₁ B hml hv
  obtain ⟨rfl, hH0, hkk0⟩ := hv
  have C : CT g RX10 cX10_undo 1 (Cond.code yX10_undo cX10_undo 1 (some .int) :: TB) p s m _ meth c := pg_ct (Tw := []) B hml hH0 hkk0
  have hr := B.returns
  have hH : HS g s s.heap [] h := ⟨hH0, va_S.rf⟩
  have hl := lv_entry ([.ref (gB g + a0)]) (n := 1) (Nat.le_of_ble_eq_true rfl)
  rw [lg_entry_eq]
  generalize (lg_sl ([.ref (gB g + a0)]) ++ List.replicate (1 - (lg_sl ([.ref (gB g + a0)])).length) Slot.unset).toArray = ls at hl ⊢
  have hl : lv_has ls 1 [(0, .ref (gB g + a0))] := hl
  show W p l e (rmD 1 0 0) _ _ _ _ _ _ _ _ _ _ _ _
  unfold mX10_undo at hf
  obtain ⟨hO, hf⟩ := oO_sp hf
  obtain ⟨⟨hx, hb, hml, hown, hts⟩, htb, hlk, hkk, hbs⟩ := id C
  refine lv_aload_n hx hb dX10_undo_0 rfl (lv_at hl 0 rfl) ?_
  refine lv_iconst (v := (0 : Int32)) hx hb dX10_undo_1 (by decide) ?_
  refine pg_pI C hH fl_X10_1 fm_10_0 hf dX10_undo_2 (fun H locs h2 hH hf => ?_)
  refine lv_aload_n hx hb dX10_undo_5 rfl (lv_at hl 0 rfl) ?_
  refine pg_gI C hH fl_X10_275 hf dX10_undo_6 (fun v6 hf => ?_)
  refine lv_if_ne (tgt := 14) hx hb dX10_undo_9 (by decide) (fun cn => ?_) (fun cn => ?_)
  · have hf := (if_neg cn).symm.trans hf
    refine lv_aload_n hx hb dX10_undo_14 rfl (lv_at hl 0 rfl) ?_
    refine lv_dup hx hb dX10_undo_15 rfl ?_
    refine pg_gI C hH fl_X10_275 hf dX10_undo_16 (fun v16 hf => ?_)
    refine lv_iconst (v := (1 : Int32)) hx hb dX10_undo_19 (by decide) ?_
    refine lv_isub hx hb dX10_undo_20 ?_
    refine pg_pI C hH fl_X10_275 fm_10_6 hf dX10_undo_21 (fun H locs h21 hH hf => ?_)
    refine lv_aload_n hx hb dX10_undo_24 rfl (lv_at hl 0 rfl) ?_
    refine pg_gR C hH fl_X10_20 hf dX10_undo_25 (fun v25 hf => ?_)
    refine lv_sipush (v := (232 : Int32)) hx hb dX10_undo_28 (by decide) ?_
    refine lv_aload_n hx hb dX10_undo_31 rfl (lv_at hl 0 rfl) ?_
    refine pg_gI C hH fl_X10_275 hf dX10_undo_32 (fun v32 hf => ?_)
    refine lv_imul hx hb dX10_undo_35 ?_
    refine lv_aload_n hx hb dX10_undo_36 rfl (lv_at hl 0 rfl) ?_
    refine pg_gR C hH fl_X10_13 hf dX10_undo_37 (fun v37 hf => ?_)
    refine lv_iconst (v := (0 : Int32)) hx hb dX10_undo_40 (by decide) ?_
    refine pg_Sv (As := [.ref (gB g + v25), .int ((232 : Int32) * v32), .ref (gB g + v37), .int (0 : Int32)]) C hH mi_X10_copies sl_X10_271 hf (fun _ e1 => c_X10_copies e1) rfl rfl hl.1 (Nat.le_of_ble_eq_true rfl) ⟨Nat.le_of_ble_eq_true rfl, Nat.le_of_ble_eq_true rfl⟩ ⟨Nat.zero_le _, Nat.zero_le _⟩ dX10_undo_41 (fun H locs h41 hH hf => ?_)
    refine lv_aload_n hx hb dX10_undo_44 rfl (lv_at hl 0 rfl) ?_
    refine pg_gI C hH fl_X10_275 hf dX10_undo_45 (fun v45 hf => ?_)
    exact pg_iret C hr hH hf dX10_undo_48
  · have hf := (if_pos cn).symm.trans hf
    refine lv_iconst (v := (-1 : Int32)) hx hb dX10_undo_12 (by decide) ?_
    exact pg_iret C hr hH hf dX10_undo_13
set_option maxHeartbeats 4000000 in
set_option maxRecDepth 100000 in
theorem wX10_keep_b30 {r : Int32} {h' : PH} (C : CT g RX10 cX10_keep 3 (Cond.code yX10_keep cX10_keep 3 (some .boolean) :: TB) p s m args meth c) (hr : meth.sig.returnType = some .boolean) {h : PH} {a0 : Nat} {x1 : Int32} {x2 : Int32} {H : Heap} {locs : List Loc} {ls : Array Slot} (hH : HS g s H locs h) (hf : mX10_keep_b30 h a0 x1 x2 = some (r, h')) (hl : lv_has ls 3 [(0, .ref (gB g + a0)), (1, .int x1), (2, .int x2)]) : W p l e (rmD 1 0 0) s m args below meth c H locs 0 0 (MQ below (QcI g r h') args s 0 0 (aB g)) (F0 m 30 ls []) := by
  obtain ⟨⟨hx, hb, hml, hown, hts⟩, htb, hlk, hkk, hbs⟩ := id C
  unfold mX10_keep_b30 at hf
  refine lv_iload_n hx hb dX10_keep_30 rfl (lv_at hl 2 rfl) ?_
  refine lv_if_eq (tgt := 59) hx hb dX10_keep_31 (by decide) (fun cn => ?_) (fun cn => ?_)
  · have hf := (if_pos cn).symm.trans hf
    refine lv_aload_n hx hb dX10_keep_59 rfl (lv_at hl 0 rfl) ?_
    refine pg_gR C hH fl_X10_13 hf dX10_keep_60 (fun v60 hf => ?_)
    refine lv_iconst (v := (0 : Int32)) hx hb dX10_keep_63 (by decide) ?_
    refine lv_aload_n hx hb dX10_keep_64 rfl (lv_at hl 0 rfl) ?_
    refine pg_gR C hH fl_X10_23 hf dX10_keep_65 (fun v65 hf => ?_)
    refine lv_sipush (v := (232 : Int32)) hx hb dX10_keep_68 (by decide) ?_
    refine lv_iload_n hx hb dX10_keep_71 rfl (lv_at hl 1 rfl) ?_
    refine lv_imul hx hb dX10_keep_72 ?_
    refine pg_Sv (As := [.ref (gB g + v60), .int (0 : Int32), .ref (gB g + v65), .int ((232 : Int32) * x1)]) C hH mi_X10_copies sl_X10_271 hf (fun _ e1 => c_X10_copies e1) rfl rfl hl.1 (Nat.le_of_ble_eq_true rfl) ⟨Nat.le_of_ble_eq_true rfl, Nat.le_of_ble_eq_true rfl⟩ ⟨Nat.zero_le _, Nat.zero_le _⟩ dX10_keep_73 (fun H locs h73 hH hf => ?_)
    refine lv_aload_n hx hb dX10_keep_76 rfl (lv_at hl 0 rfl) ?_
    refine pg_gR C hH fl_X10_26 hf dX10_keep_77 (fun v77 hf => ?_)
    refine lv_iload_n hx hb dX10_keep_80 rfl (lv_at hl 1 rfl) ?_
    refine lv_iconst (v := (1 : Int32)) hx hb dX10_keep_81 (by decide) ?_
    refine pg_sZ C hH hf dX10_keep_82 (fun H locs h82 hH hf => ?_)
    refine lv_iconst (v := (1 : Int32)) hx hb dX10_keep_83 (by decide) ?_
    exact pg_zret C hr hH hf dX10_keep_84
  · have hf := (if_neg cn).symm.trans hf
    refine lv_aload_n hx hb dX10_keep_34 rfl (lv_at hl 0 rfl) ?_
    refine pg_gR C hH fl_X10_23 hf dX10_keep_35 (fun v35 hf => ?_)
    refine lv_sipush (v := (232 : Int32)) hx hb dX10_keep_38 (by decide) ?_
    refine lv_iload_n hx hb dX10_keep_41 rfl (lv_at hl 1 rfl) ?_
    refine lv_imul hx hb dX10_keep_42 ?_
    refine lv_aload_n hx hb dX10_keep_43 rfl (lv_at hl 0 rfl) ?_
    refine pg_gR C hH fl_X10_13 hf dX10_keep_44 (fun v44 hf => ?_)
    refine lv_iconst (v := (0 : Int32)) hx hb dX10_keep_47 (by decide) ?_
    refine pg_Sv (As := [.ref (gB g + v35), .int ((232 : Int32) * x1), .ref (gB g + v44), .int (0 : Int32)]) C hH mi_X10_copies sl_X10_271 hf (fun _ e1 => c_X10_copies e1) rfl rfl hl.1 (Nat.le_of_ble_eq_true rfl) ⟨Nat.le_of_ble_eq_true rfl, Nat.le_of_ble_eq_true rfl⟩ ⟨Nat.zero_le _, Nat.zero_le _⟩ dX10_keep_48 (fun H locs h48 hH hf => ?_)
    refine lv_aload_n hx hb dX10_keep_51 rfl (lv_at hl 0 rfl) ?_
    refine lv_iconst (v := (0 : Int32)) hx hb dX10_keep_52 (by decide) ?_
    refine pg_pI C hH fl_X10_275 fm_10_6 hf dX10_keep_53 (fun H locs h53 hH hf => ?_)
    refine lv_goto (tgt := 83) hx hb dX10_keep_56 (by decide) ?_
    refine lv_iconst (v := (1 : Int32)) hx hb dX10_keep_83 (by decide) ?_
    exact pg_zret C hr hH hf dX10_keep_84
set_option maxHeartbeats 4000000 in
set_option maxRecDepth 100000 in
theorem c_X10_keep {l : Launch} {g : GD} {h : PH} {a0 : Nat} {x1 : Int32} {x2 : Int32} {r : Int32} {h' : PH} (hf : mX10_keep h a0 x1 x2 = some (r, h')) : Met l yX10_keep (Cond.code yX10_keep cX10_keep 3 (some .boolean) :: TB) (rmD 1 0 0) (PcH g [.ref (gB g + a0), .int x1, .int x2] h) (QcI g r h') 0 0 (aB g) := by
  refine Met.ofW (cc := cX10_keep) (maxL := 3) (ret := some .boolean) (by decide) rfl ?_
  intro p e s m args below meth c s₁ B hml hv
  obtain ⟨rfl, hH0, hkk0⟩ := hv
  have C : CT g RX10 cX10_keep 3 (Cond.code yX10_keep cX10_keep 3 (some .boolean) :: TB) p s m _ meth c := pg_ct (Tw := []) B hml hH0 hkk0
  have hr := B.returns
  have hH : HS g s s.heap [] h := ⟨hH0, va_S.rf⟩
  have hl := lv_entry ([.ref (gB g + a0), .int x1, .int x2]) (n := 3) (Nat.le_of_ble_eq_true rfl)
  rw [lg_entry_eq]
  generalize (lg_sl ([.ref (gB g + a0), .int x1, .int x2]) ++ List.replicate (3 - (lg_sl ([.ref (gB g + a0), .int x1, .int x2])).length) Slot.unset).toArray = ls at hl ⊢
  have hl : lv_has ls 3 [(0, .ref (gB g + a0)), (1, .int x1), (2, .int x2)] := hl
  show W p l e (rmD 1 0 0) _ _ _ _ _ _ _ _ _ _ _ _
  unfold mX10_keep at hf
  obtain ⟨hO, hf⟩ := oO_sp hf
  obtain ⟨⟨hx, hb, hml, hown, hts⟩, htb, hlk, hkk, hbs⟩ := id C
  refine lv_aload_n hx hb dX10_keep_0 rfl (lv_at hl 0 rfl) ?_
  refine lv_iconst (v := (0 : Int32)) hx hb dX10_keep_1 (by decide) ?_
  refine pg_pI C hH fl_X10_1 fm_10_0 hf dX10_keep_2 (fun H locs h2 hH hf => ?_)
  refine lv_iload_n hx hb dX10_keep_5 rfl (lv_at hl 1 rfl) ?_
  refine lv_i2l (v := (Int32.toInt64 x1)) hx hb dX10_keep_6 rfl ?_
  refine lv_lconst (v := (0 : Int64)) hx hb dX10_keep_7 (by decide) ?_
  refine lv_lconst (v := (1 : Int64)) hx hb dX10_keep_8 (by decide) ?_
  refine pg_Si (As := [.long (Int32.toInt64 x1), .long (0 : Int64), .long (1 : Int64)]) C hH mi_X10_within sl_X10_97 hf (fun _ _ e1 => c_X10_within e1) rfl rfl hl.1 (Nat.le_of_ble_eq_true rfl) ⟨Nat.le_of_ble_eq_true rfl, Nat.le_of_ble_eq_true rfl⟩ ⟨Nat.zero_le _, Nat.zero_le _⟩ dX10_keep_9 (fun H locs v9 h9 hH hf => ?_)
  refine lv_if_eq (tgt := 28) hx hb dX10_keep_12 (by decide) (fun cn => ?_) (fun cn => ?_)
  · have hf := (if_pos cn).symm.trans hf
    refine lv_iconst (v := (0 : Int32)) hx hb dX10_keep_28 (by decide) ?_
    exact pg_zret C hr hH hf dX10_keep_29
  · have hf := (if_neg cn).symm.trans hf
    refine lv_iload_n hx hb dX10_keep_15 rfl (lv_at hl 2 rfl) ?_
    refine lv_if_eq (tgt := 30) hx hb dX10_keep_16 (by decide) (fun cn => ?_) (fun cn => ?_)
    · have hf := (if_pos cn).symm.trans hf
      exact wX10_keep_b30 C hr hH hf (lv_sub hl [0, 1, 2] rfl)
    · have hf := (if_neg cn).symm.trans hf
      refine lv_aload_n hx hb dX10_keep_19 rfl (lv_at hl 0 rfl) ?_
      refine pg_gR C hH fl_X10_26 hf dX10_keep_20 (fun v20 hf => ?_)
      refine lv_iload_n hx hb dX10_keep_23 rfl (lv_at hl 1 rfl) ?_
      refine pg_aZ C hH hf dX10_keep_24 (fun v24 hf => ?_)
      refine lv_if_ne (tgt := 30) hx hb dX10_keep_25 (by decide) (fun cn => ?_) (fun cn => ?_)
      · have hf := (if_neg cn).symm.trans hf
        exact wX10_keep_b30 C hr hH hf (lv_sub hl [0, 1, 2] rfl)
      · have hf := (if_pos cn).symm.trans hf
        refine lv_iconst (v := (0 : Int32)) hx hb dX10_keep_28 (by decide) ?_
        exact pg_zret C hr hH hf dX10_keep_29
end WK8
