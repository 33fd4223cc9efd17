/-! ===== 24: walks (by program) ===== -/
section WK4
variable {p : Program} {l : Launch} {e : Env} {s : State} {m : MethodId} {args : Array Value} {below : List Frame} {meth : Method} {c : Code} {g : GD}
set_option maxHeartbeats 4000000 in
set_option maxRecDepth 100000 in
theorem c_X9_report {l : Launch} {g : GD} {h : PH} {a0 : Nat} {x1 : Int32} {r : Int32} {h' : PH} (hf : mX9_report h a0 x1 = some (r, h')) : Met l yX9_report (Cond.code yX9_report cX9_report 2 (some .int) :: TB) (rmD 7 0 0) (PcH g [.ref (gB g + a0), .int x1] h) (QcI g r h') 0 0 (aB g) := by
  refine Met.ofW (cc := cX9_report) (maxL := 2) (ret := some .int) (by decide) rfl ?_
  intro p e s m args below meth c s₁ B hml hv
  obtain ⟨rfl, hH0, hkk0⟩ := hv
  have C : CT g RX9 cX9_report 2 (Cond.code yX9_report cX9_report 2 (some .int) :: TB) p s m _ meth c := pg_ct (Tw := []) B hml hH0 hkk0
  have hr := B.returns
  have hH : HS g s s.heap [] h := ⟨hH0, va_S.rf⟩
  have hl := lv_entry ([.ref (gB g + a0), .int x1]) (n := 2) (Nat.le_of_ble_eq_true rfl)
  rw [lg_entry_eq]
  generalize (lg_sl ([.ref (gB g + a0), .int x1]) ++ List.replicate (2 - (lg_sl ([.ref (gB g + a0), .int x1])).length) Slot.unset).toArray = ls at hl ⊢
  have hl : lv_has ls 2 [(0, .ref (gB g + a0)), (1, .int x1)] := hl
  show W p l e (rmD 7 0 0) _ _ _ _ _ _ _ _ _ _ _ _
  unfold mX9_report at hf
  obtain ⟨hO, hf⟩ := oO_sp hf
  obtain ⟨⟨hx, hb, hml, hown, hts⟩, htb, hlk, hkk, hbs⟩ := id C
  refine lv_iload_n hx hb dX9_report_0 rfl (lv_at hl 1 rfl) ?_
  refine lv_iconst (v := (-1 : Int32)) hx hb dX9_report_1 (by decide) ?_
  refine lv_icmp_ge (tgt := 7) hx hb dX9_report_2 (by decide) (fun cn => ?_) (fun cn => ?_)
  · have hf := (if_pos cn).symm.trans hf
    refine lv_aload_n hx hb dX9_report_7 rfl (lv_at hl 0 rfl) ?_
    refine pg_Vv (As := []) C hH mi_X9_writeReport vl_X9_220 (q := (RX9, TX9, 11)) (ci := 9) rfl rfl hf (fun _ e1 => (oO_sp e1).1) (fun _ e1 => c_X9_writeReport e1) rfl rfl hl.1 (Nat.le_of_ble_eq_true rfl) ⟨Nat.le_of_ble_eq_true rfl, Nat.le_of_ble_eq_true rfl⟩ ⟨Nat.zero_le _, Nat.zero_le _⟩ dX9_report_8 (fun H locs h8 hH hf => ?_)
    refine lv_iload_n hx hb dX9_report_11 rfl (lv_at hl 1 rfl) ?_
    refine lv_iconst (v := (-1 : Int32)) hx hb dX9_report_12 (by decide) ?_
    refine lv_icmp_ne (tgt := 24) hx hb dX9_report_13 (by decide) (fun cn => ?_) (fun cn => ?_)
    · have hf := (if_neg cn).symm.trans hf
      refine lv_iload_n hx hb dX9_report_24 rfl (lv_at hl 1 rfl) ?_
      refine lv_aload_n hx hb dX9_report_25 rfl (lv_at hl 0 rfl) ?_
      refine pg_gR C hH fl_X9_74 hf dX9_report_26 (fun v26 hf => ?_)
      refine pg_gI C hH fl_X9_223 hf dX9_report_29 (fun v29 hf => ?_)
      refine lv_icmp_ge (tgt := 47) hx hb dX9_report_32 (by decide) (fun cn => ?_) (fun cn => ?_)
      · have hf := (if_pos cn).symm.trans hf
        refine lv_bipush (v := (-2 : Int32)) hx hb dX9_report_47 (by decide) ?_
        exact pg_iret C hr hH hf dX9_report_49
      · have hf := (if_neg cn).symm.trans hf
        refine lv_aload_n hx hb dX9_report_35 rfl (lv_at hl 0 rfl) ?_
        refine pg_gR C hH fl_X9_74 hf dX9_report_36 (fun v36 hf => ?_)
        refine pg_gR C hH fl_X9_224 hf dX9_report_39 (fun v39 hf => ?_)
        refine lv_iload_n hx hb dX9_report_42 rfl (lv_at hl 1 rfl) ?_
        refine pg_aB C hH hf dX9_report_43 (fun v43 hf => ?_)
        refine lv_goto (tgt := 49) hx hb dX9_report_44 (by decide) ?_
        exact pg_iret C hr hH hf dX9_report_49
    · have hf := (if_pos cn).symm.trans hf
      refine lv_aload_n hx hb dX9_report_16 rfl (lv_at hl 0 rfl) ?_
      refine pg_gR C hH fl_X9_74 hf dX9_report_17 (fun v17 hf => ?_)
      refine pg_gI C hH fl_X9_223 hf dX9_report_20 (fun v20 hf => ?_)
      exact pg_iret C hr hH hf dX9_report_23
  · have hf := (if_neg cn).symm.trans hf
    refine lv_iconst (v := (-1 : Int32)) hx hb dX9_report_5 (by decide) ?_
    exact pg_iret C hr hH hf dX9_report_6
set_option maxHeartbeats 4000000 in
set_option maxRecDepth 100000 in
theorem c_X9_price {l : Launch} {g : GD} {h : PH} {a0 : Nat} {x1 : Int32} {x2 : Int32} {r : Int32} {h' : PH} (hf : mX9_price h a0 x1 x2 = some (r, h')) : Met l yX9_price (Cond.code yX9_price cX9_price 4 (some .int) :: TB) (rmD 2 0 0) (PcH g [.ref (gB g + a0), .int x1, .int x2] h) (QcI g r h') 0 0 (aB g) := by
  refine Met.ofW (cc := cX9_price) (maxL := 4) (ret := some .int) (by decide) rfl ?_
  intro p e s m args below meth c s₁ B hml hv
  obtain ⟨rfl, hH0, hkk0⟩ := hv
  have C : CT g RX9 cX9_price 4 (Cond.code yX9_price cX9_price 4 (some .int) :: TB) p s m _ meth c := pg_ct (Tw := []) B hml hH0 hkk0
  have hr := B.returns
  have hH : HS g s s.heap [] h := ⟨hH0, va_S.rf⟩
  have hl := lv_entry ([.ref (gB g + a0), .int x1, .int x2]) (n := 4) (Nat.le_of_ble_eq_true rfl)
  rw [lg_entry_eq]
  generalize (lg_sl ([.ref (gB g + a0), .int x1, .int x2]) ++ List.replicate (4 - (lg_sl ([.ref (gB g + a0), .int x1, .int x2])).length) Slot.unset).toArray = ls at hl ⊢
  have hl : lv_has ls 4 [(0, .ref (gB g + a0)), (1, .int x1), (2, .int x2)] := hl
  show W p l e (rmD 2 0 0) _ _ _ _ _ _ _ _ _ _ _ _
  unfold mX9_price at hf
  obtain ⟨hO, hf⟩ := oO_sp hf
  obtain ⟨⟨hx, hb, hml, hown, hts⟩, htb, hlk, hkk, hbs⟩ := id C
  refine lv_aload_n hx hb dX9_price_0 rfl (lv_at hl 0 rfl) ?_
  refine pg_gR C hH fl_X9_19 hf dX9_price_1 (fun v1 hf => ?_)
  refine lv_iconst (v := (3 : Int32)) hx hb dX9_price_4 (by decide) ?_
  refine lv_iload_n hx hb dX9_price_5 rfl (lv_at hl 1 rfl) ?_
  refine pg_Vi (As := [.int (3 : Int32), .int x1]) C hH mi_X8_has vl_X9_104 (q := (RX8, TX8, 8)) (ci := 8) rfl rfl hf (fun _ e1 => (oO_sp e1).1) (fun _ _ e1 => c_X8_has e1) rfl rfl hl.1 (Nat.le_of_ble_eq_true rfl) ⟨Nat.le_of_ble_eq_true rfl, Nat.le_of_ble_eq_true rfl⟩ ⟨Nat.zero_le _, Nat.zero_le _⟩ dX9_price_6 (fun H locs v6 h6 hH hf => ?_)
  refine lv_if_eq (tgt := 39) hx hb dX9_price_9 (by decide) (fun cn => ?_) (fun cn => ?_)
  · have hf := (if_pos cn).symm.trans hf
    refine lv_iconst (v := (-1 : Int32)) hx hb dX9_price_39 (by decide) ?_
    exact pg_iret C hr hH hf dX9_price_40
  · have hf := (if_neg cn).symm.trans hf
    refine lv_iload_n hx hb dX9_price_12 rfl (lv_at hl 2 rfl) ?_
    refine lv_iconst (v := (1 : Int32)) hx hb dX9_price_13 (by decide) ?_
    refine lv_icmp_lt (tgt := 39) hx hb dX9_price_14 (by decide) (fun cn => ?_) (fun cn => ?_)
    · have hf := (if_pos cn).symm.trans hf
      refine lv_iconst (v := (-1 : Int32)) hx hb dX9_price_39 (by decide) ?_
      exact pg_iret C hr hH hf dX9_price_40
    · have hf := (if_neg cn).symm.trans hf
      refine lv_iload_n hx hb dX9_price_17 rfl (lv_at hl 2 rfl) ?_
      refine lv_sipush (v := (9999 : Int32)) hx hb dX9_price_18 (by decide) ?_
      refine lv_icmp_gt (tgt := 39) hx hb dX9_price_21 (by decide) (fun cn => ?_) (fun cn => ?_)
      · have hf := (if_pos cn).symm.trans hf
        refine lv_iconst (v := (-1 : Int32)) hx hb dX9_price_39 (by decide) ?_
        exact pg_iret C hr hH hf dX9_price_40
      · have hf := (if_neg cn).symm.trans hf
        refine lv_aload_n hx hb dX9_price_24 rfl (lv_at hl 0 rfl) ?_
        refine pg_gR C hH fl_X9_19 hf dX9_price_25 (fun v25 hf => ?_)
        refine pg_gR C hH fl_X9_114 hf dX9_price_28 (fun v28 hf => ?_)
        refine lv_iload_n hx hb dX9_price_31 rfl (lv_at hl 1 rfl) ?_
        refine pg_aR C hH (Or.inr rfl) hf dX9_price_32 (fun v32 hf => ?_)
        refine lv_iconst (v := (4 : Int32)) hx hb dX9_price_33 (by decide) ?_
        refine pg_aI C hH hf dX9_price_34 (fun v34 hf => ?_)
        refine lv_iload_n hx hb dX9_price_35 rfl (lv_at hl 2 rfl) ?_
        refine lv_icmp_ne (tgt := 41) hx hb dX9_price_36 (by decide) (fun cn => ?_) (fun cn => ?_)
        · have hf := (if_neg cn).symm.trans hf
          refine lv_aload_n hx hb dX9_price_41 rfl (lv_at hl 0 rfl) ?_
          refine pg_gR C hH fl_X9_19 hf dX9_price_42 (fun v42 hf => ?_)
          refine pg_gR C hH fl_X9_114 hf dX9_price_45 (fun v45 hf => ?_)
          refine lv_iload_n hx hb dX9_price_48 rfl (lv_at hl 1 rfl) ?_
          refine pg_aR C hH (Or.inr rfl) hf dX9_price_49 (fun v49 hf => ?_)
          refine lv_iconst (v := (4 : Int32)) hx hb dX9_price_50 (by decide) ?_
          refine pg_aI C hH hf dX9_price_51 (fun v51 hf => ?_)
          refine lv_istore_n (lv' := [(3, .int v51), (0, .ref (gB g + a0)), (1, .int x1), (2, .int x2)]) hx hb dX9_price_52 rfl hl (by decide) rfl (fun ls hl => ?_)
          refine lv_aload_n hx hb dX9_price_53 rfl (lv_at hl 1 rfl) ?_
          refine pg_gR C hH fl_X9_19 hf dX9_price_54 (fun v54 hf => ?_)
          refine pg_gR C hH fl_X9_114 hf dX9_price_57 (fun v57 hf => ?_)
          refine lv_iload_n hx hb dX9_price_60 rfl (lv_at hl 2 rfl) ?_
          refine pg_aR C hH (Or.inr rfl) hf dX9_price_61 (fun v61 hf => ?_)
          refine lv_iconst (v := (4 : Int32)) hx hb dX9_price_62 (by decide) ?_
          refine lv_iload_n hx hb dX9_price_63 rfl (lv_at hl 3 rfl) ?_
          refine pg_sI C hH hf dX9_price_64 (fun H locs h64 hH hf => ?_)
          refine lv_aload_n hx hb dX9_price_65 rfl (lv_at hl 1 rfl) ?_
          refine pg_gR C hH fl_X9_67 hf dX9_price_66 (fun v66 hf => ?_)
          refine lv_iconst (v := (0 : Int32)) hx hb dX9_price_69 (by decide) ?_
          refine lv_iload_n hx hb dX9_price_70 rfl (lv_at hl 2 rfl) ?_
          refine lv_iconst (v := (0 : Int32)) hx hb dX9_price_71 (by decide) ?_
          refine lv_iload_n hx hb dX9_price_72 rfl (lv_at hl 0 rfl) ?_
          refine pg_Vv (As := [.int (0 : Int32), .int x1, .int (0 : Int32), .int v51]) C hH mi_X0_add vl_X9_228 (q := (RX0, TX0, 3)) (ci := 0) rfl rfl hf (fun _ e1 => (oO_sp e1).1) (fun _ e1 => c_X0_add e1) rfl rfl hl.1 (Nat.le_of_ble_eq_true rfl) ⟨Nat.le_of_ble_eq_true rfl, Nat.le_of_ble_eq_true rfl⟩ ⟨Nat.zero_le _, Nat.zero_le _⟩ dX9_price_73 (fun H locs h73 hH hf => ?_)
          refine lv_iload_n hx hb dX9_price_76 rfl (lv_at hl 0 rfl) ?_
          exact pg_iret C hr hH hf dX9_price_77
        · have hf := (if_pos cn).symm.trans hf
          refine lv_iconst (v := (-1 : Int32)) hx hb dX9_price_39 (by decide) ?_
          exact pg_iret C hr hH hf dX9_price_40
set_option maxHeartbeats 4000000 in
set_option maxRecDepth 100000 in
theorem wX9_bind_b9 {r : Int32} {h' : PH} (C : CT g RX9 cX9_bind 4 (Cond.code yX9_bind cX9_bind 4 (some .boolean) :: TB) p s m args meth c) (hr : meth.sig.returnType = some .boolean) {h : PH} {a0 : Nat} {x1 : Int32} {s0 : Int32} {H : Heap} {locs : List Loc} {ls : Array Slot} (hH : HS g s H locs h) (hf : mX9_bind_b9 h a0 x1 s0 = some (r, h')) (hl : lv_has ls 4 [(0, .ref (gB g + a0)), (1, .int x1)]) : W p l e (rmD 2 0 0) s m args below meth c H locs 0 0 (MQ below (QcI g r h') args s 0 0 (aB g)) (F0 m 9 ls [.int s0]) := by
  obtain ⟨⟨hx, hb, hml, hown, hts⟩, htb, hlk, hkk, hbs⟩ := id C
  unfold mX9_bind_b9 at hf
  refine lv_istore_n (lv' := [(3, .int s0), (0, .ref (gB g + a0)), (1, .int x1)]) hx hb dX9_bind_9 rfl hl (by decide) rfl (fun ls hl => ?_)
  refine lv_aload_n hx hb dX9_bind_10 rfl (lv_at hl 1 rfl) ?_
  refine pg_gR C hH fl_X9_19 hf dX9_bind_11 (fun v11 hf => ?_)
  refine lv_iconst (v := (3 : Int32)) hx hb dX9_bind_14 (by decide) ?_
  refine lv_iload_n hx hb dX9_bind_15 rfl (lv_at hl 2 rfl) ?_
  refine pg_Vi (As := [.int (3 : Int32), .int x1]) C hH mi_X8_has vl_X9_104 (q := (RX8, TX8, 8)) (ci := 8) rfl rfl hf (fun _ e1 => (oO_sp e1).1) (fun _ _ e1 => c_X8_has e1) rfl rfl hl.1 (Nat.le_of_ble_eq_true rfl) ⟨Nat.le_of_ble_eq_true rfl, Nat.le_of_ble_eq_true rfl⟩ ⟨Nat.zero_le _, Nat.zero_le _⟩ dX9_bind_16 (fun H locs v16 h16 hH hf => ?_)
  refine lv_if_eq (tgt := 38) hx hb dX9_bind_19 (by decide) (fun cn => ?_) (fun cn => ?_)
  · have hf := (if_pos cn).symm.trans hf
    refine lv_iconst (v := (0 : Int32)) hx hb dX9_bind_38 (by decide) ?_
    exact pg_zret C hr hH hf dX9_bind_39
  · have hf := (if_neg cn).symm.trans hf
    refine lv_aload_n hx hb dX9_bind_22 rfl (lv_at hl 1 rfl) ?_
    refine pg_gR C hH fl_X9_19 hf dX9_bind_23 (fun v23 hf => ?_)
    refine pg_gR C hH fl_X9_114 hf dX9_bind_26 (fun v26 hf => ?_)
    refine lv_iload_n hx hb dX9_bind_29 rfl (lv_at hl 2 rfl) ?_
    refine pg_aR C hH (Or.inr rfl) hf dX9_bind_30 (fun v30 hf => ?_)
    refine lv_bipush (v := (6 : Int32)) hx hb dX9_bind_31 (by decide) ?_
    refine pg_aI C hH hf dX9_bind_33 (fun v33 hf => ?_)
    refine lv_iload_n hx hb dX9_bind_34 rfl (lv_at hl 0 rfl) ?_
    refine lv_icmp_ne (tgt := 40) hx hb dX9_bind_35 (by decide) (fun cn => ?_) (fun cn => ?_)
    · have hf := (if_neg cn).symm.trans hf
      refine lv_aload_n hx hb dX9_bind_40 rfl (lv_at hl 1 rfl) ?_
      refine pg_gR C hH fl_X9_19 hf dX9_bind_41 (fun v41 hf => ?_)
      refine pg_gR C hH fl_X9_114 hf dX9_bind_44 (fun v44 hf => ?_)
      refine lv_iload_n hx hb dX9_bind_47 rfl (lv_at hl 2 rfl) ?_
      refine pg_aR C hH (Or.inr rfl) hf dX9_bind_48 (fun v48 hf => ?_)
      refine lv_bipush (v := (6 : Int32)) hx hb dX9_bind_49 (by decide) ?_
      refine lv_iload_n hx hb dX9_bind_51 rfl (lv_at hl 0 rfl) ?_
      refine pg_sI C hH hf dX9_bind_52 (fun H locs h52 hH hf => ?_)
      refine lv_aload_n hx hb dX9_bind_53 rfl (lv_at hl 1 rfl) ?_
      refine pg_gR C hH fl_X9_67 hf dX9_bind_54 (fun v54 hf => ?_)
      refine lv_iconst (v := (1 : Int32)) hx hb dX9_bind_57 (by decide) ?_
      refine lv_iload_n hx hb dX9_bind_58 rfl (lv_at hl 2 rfl) ?_
      refine lv_iconst (v := (0 : Int32)) hx hb dX9_bind_59 (by decide) ?_
      refine lv_iconst (v := (1 : Int32)) hx hb dX9_bind_60 (by decide) ?_
      refine lv_iload_n hx hb dX9_bind_61 rfl (lv_at hl 0 rfl) ?_
      refine lv_isub hx hb dX9_bind_62 ?_
      refine pg_Vv (As := [.int (1 : Int32), .int x1, .int (0 : Int32), .int ((1 : Int32) - s0)]) C hH mi_X0_add vl_X9_228 (q := (RX0, TX0, 3)) (ci := 0) rfl rfl hf (fun _ e1 => (oO_sp e1).1) (fun _ e1 => c_X0_add e1) rfl rfl hl.1 (Nat.le_of_ble_eq_true rfl) ⟨Nat.le_of_ble_eq_true rfl, Nat.le_of_ble_eq_true rfl⟩ ⟨Nat.zero_le _, Nat.zero_le _⟩ dX9_bind_63 (fun H locs h63 hH hf => ?_)
      refine lv_iconst (v := (1 : Int32)) hx hb dX9_bind_66 (by decide) ?_
      exact pg_zret C hr hH hf dX9_bind_67
    · have hf := (if_pos cn).symm.trans hf
      refine lv_iconst (v := (0 : Int32)) hx hb dX9_bind_38 (by decide) ?_
      exact pg_zret C hr hH hf dX9_bind_39
set_option maxHeartbeats 4000000 in
set_option maxRecDepth 100000 in
theorem c_X9_bind {l : Launch} {g : GD} {h : PH} {a0 : Nat} {x1 : Int32} {x2 : Int32} {r : Int32} {h' : PH} (hf : mX9_bind h a0 x1 x2 = some (r, h')) : Met l yX9_bind (Cond.code yX9_bind cX9_bind 4 (some .boolean) :: TB) (rmD 2 0 0) (PcH g [.ref (gB g + a0), .int x1, .int x2] h) (QcI g r h') 0 0 (aB g) := by
  refine Met.ofW (cc := cX9_bind) (maxL := 4) (ret := some .boolean) (by decide) rfl ?_
  intro p e s m args below meth c s₁ B hml hv
  obtain ⟨rfl, hH0, hkk0⟩ := hv
  have C : CT g RX9 cX9_bind 4 (Cond.code yX9_bind cX9_bind 4 (some .boolean) :: TB) p s m _ meth c := pg_ct (Tw := []) B hml hH0 hkk0
  have hr := B.returns
  have hH : HS g s s.heap [] h := ⟨hH0, va_S.rf⟩
  have hl := lv_entry ([.ref (gB g + a0), .int x1, .int x2]) (n := 4) (Nat.le_of_ble_eq_true rfl)
  rw [lg_entry_eq]
  generalize (lg_sl ([.ref (gB g + a0), .int x1, .int x2]) ++ List.replicate (4 - (lg_sl ([.ref (gB g + a0), .int x1, .int x2])).length) Slot.unset).toArray = ls at hl ⊢
  have hl : lv_has ls 4 [(0, .ref (gB g + a0)), (1, .int x1), (2, .int x2)] := hl
  show W p l e (rmD 2 0 0) _ _ _ _ _ _ _ _ _ _ _ _
  unfold mX9_bind at hf
  obtain ⟨hO, hf⟩ := oO_sp hf
  obtain ⟨⟨hx, hb, hml, hown, hts⟩, htb, hlk, hkk, hbs⟩ := id C
  refine lv_iload_n hx hb dX9_bind_0 rfl (lv_at hl 2 rfl) ?_
  refine lv_if_eq (tgt := 8) hx hb dX9_bind_1 (by decide) (fun cn => ?_) (fun cn => ?_)
  · have hf := (if_pos cn).symm.trans hf
    refine lv_iconst (v := (0 : Int32)) hx hb dX9_bind_8 (by decide) ?_
    exact wX9_bind_b9 C hr hH hf (lv_sub hl [0, 1] rfl)
  · have hf := (if_neg cn).symm.trans hf
    refine lv_iconst (v := (1 : Int32)) hx hb dX9_bind_4 (by decide) ?_
    refine lv_goto (tgt := 9) hx hb dX9_bind_5 (by decide) ?_
    exact wX9_bind_b9 C hr hH hf (lv_sub hl [0, 1] rfl)
set_option maxHeartbeats 4000000 in
set_option maxRecDepth 100000 in
theorem wX9_relate_b91 {r : Int32} {h' : PH} (C : CT g RX9 cX9_relate 4 (Cond.code yX9_relate cX9_relate 4 (some .boolean) :: TB) p s m args meth c) (hr : meth.sig.returnType = some .boolean) {h : PH} {s0 : Nat} {s1 : Int32} {s2 : Int32} {s3 : Int32} {s4 : Int32} {H : Heap} {locs : List Loc} {ls : Array Slot} (hH : HS g s H locs h) (hf : mX9_relate_b91 h s0 s1 s2 s3 s4 = some (r, h')) (hl : lv_has ls 4 []) : W p l e (rmD 2 0 0) s m args below meth c H locs 0 0 (MQ below (QcI g r h') args s 0 0 (aB g)) (F0 m 91 ls [.int s4, .int s3, .int s2, .int s1, .ref (gB g + s0)]) := by
  obtain ⟨⟨hx, hb, hml, hown, hts⟩, htb, hlk, hkk, hbs⟩ := id C
  unfold mX9_relate_b91 at hf
  refine pg_Vv (As := [.int s1, .int s2, .int s3, .int s4]) C hH mi_X0_add vl_X9_228 (q := (RX0, TX0, 3)) (ci := 0) rfl rfl hf (fun _ e1 => (oO_sp e1).1) (fun _ e1 => c_X0_add e1) rfl rfl hl.1 (Nat.le_of_ble_eq_true rfl) ⟨Nat.le_of_ble_eq_true rfl, Nat.le_of_ble_eq_true rfl⟩ ⟨Nat.zero_le _, Nat.zero_le _⟩ dX9_relate_91 (fun H locs h91 hH hf => ?_)
  refine lv_iconst (v := (1 : Int32)) hx hb dX9_relate_94 (by decide) ?_
  exact pg_zret C hr hH hf dX9_relate_95
set_option maxHeartbeats 4000000 in
set_option maxRecDepth 100000 in
theorem wX9_relate_b65 {r : Int32} {h' : PH} (C : CT g RX9 cX9_relate 4 (Cond.code yX9_relate cX9_relate 4 (some .boolean) :: TB) p s m args meth c) (hr : meth.sig.returnType = some .boolean) {h : PH} {a0 : Nat} {x1 : Int32} {x2 : Int32} {x3 : Int32} {H : Heap} {locs : List Loc} {ls : Array Slot} (hH : HS g s H locs h) (hf : mX9_relate_b65 h a0 x1 x2 x3 = some (r, h')) (hl : lv_has ls 4 [(0, .ref (gB g + a0)), (1, .int x1), (2, .int x2), (3, .int x3)]) : W p l e (rmD 2 0 0) s m args below meth c H locs 0 0 (MQ below (QcI g r h') args s 0 0 (aB g)) (F0 m 65 ls []) := by
  obtain ⟨⟨hx, hb, hml, hown, hts⟩, htb, hlk, hkk, hbs⟩ := id C
  unfold mX9_relate_b65 at hf
  refine lv_aload_n hx hb dX9_relate_65 rfl (lv_at hl 0 rfl) ?_
  refine pg_gR C hH fl_X9_19 hf dX9_relate_66 (fun v66 hf => ?_)
  refine lv_iload_n hx hb dX9_relate_69 rfl (lv_at hl 1 rfl) ?_
  refine lv_iload_n hx hb dX9_relate_70 rfl (lv_at hl 2 rfl) ?_
  refine lv_iload_n hx hb dX9_relate_71 rfl (lv_at hl 3 rfl) ?_
  refine pg_Vv (As := [.int x1, .int x2, .int x3]) C hH mi_X8_tell vl_X9_234 (q := (RX8, TX8, 8)) (ci := 8) rfl rfl hf (fun _ e1 => (oO_sp e1).1) (fun _ e1 => c_X8_tell e1) rfl rfl hl.1 (Nat.le_of_ble_eq_true rfl) ⟨Nat.le_of_ble_eq_true rfl, Nat.le_of_ble_eq_true rfl⟩ ⟨Nat.zero_le _, Nat.zero_le _⟩ dX9_relate_72 (fun H locs h72 hH hf => ?_)
  refine lv_aload_n hx hb dX9_relate_75 rfl (lv_at hl 0 rfl) ?_
  refine pg_gR C hH fl_X9_67 hf dX9_relate_76 (fun v76 hf => ?_)
  refine lv_iconst (v := (2 : Int32)) hx hb dX9_relate_79 (by decide) ?_
  refine lv_iload_n hx hb dX9_relate_80 rfl (lv_at hl 1 rfl) ?_
  refine lv_iload_n hx hb dX9_relate_81 rfl (lv_at hl 2 rfl) ?_
  refine lv_iload_n hx hb dX9_relate_82 rfl (lv_at hl 3 rfl) ?_
  refine lv_if_eq (tgt := 90) hx hb dX9_relate_83 (by decide) (fun cn => ?_) (fun cn => ?_)
  · have hf := (if_pos cn).symm.trans hf
    refine lv_iconst (v := (1 : Int32)) hx hb dX9_relate_90 (by decide) ?_
    exact wX9_relate_b91 C hr hH hf (lv_sub hl [] rfl)
  · have hf := (if_neg cn).symm.trans hf
    refine lv_iconst (v := (0 : Int32)) hx hb dX9_relate_86 (by decide) ?_
    refine lv_goto (tgt := 91) hx hb dX9_relate_87 (by decide) ?_
    exact wX9_relate_b91 C hr hH hf (lv_sub hl [] rfl)
set_option maxHeartbeats 4000000 in
set_option maxRecDepth 100000 in
theorem c_X9_relate {l : Launch} {g : GD} {h : PH} {a0 : Nat} {x1 : Int32} {x2 : Int32} {x3 : Int32} {r : Int32} {h' : PH} (hf : mX9_relate h a0 x1 x2 x3 = some (r, h')) : Met l yX9_relate (Cond.code yX9_relate cX9_relate 4 (some .boolean) :: TB) (rmD 2 0 0) (PcH g [.ref (gB g + a0), .int x1, .int x2, .int x3] h) (QcI g r h') 0 0 (aB g) := by
  refine Met.ofW (cc := cX9_relate) (maxL := 4) (ret := some .boolean) (by decide) rfl ?_
  intro p e s m args below meth c s₁ B hml hv
  obtain ⟨rfl, hH0, hkk0⟩ := hv
  have C : CT g RX9 cX9_relate 4 (Cond.code yX9_relate cX9_relate 4 (some .boolean) :: TB) p s m _ meth c := pg_ct (Tw := []) B hml hH0 hkk0
  have hr := B.returns
  have hH : HS g s s.heap [] h := ⟨hH0, va_S.rf⟩
  have hl := lv_entry ([.ref (gB g + a0), .int x1, .int x2, .int x3]) (n := 4) (Nat.le_of_ble_eq_true rfl)
  rw [lg_entry_eq]
  generalize (lg_sl ([.ref (gB g + a0), .int x1, .int x2, .int x3]) ++ List.replicate (4 - (lg_sl ([.ref (gB g + a0), .int x1, .int x2, .int x3])).length) Slot.unset).toArray = ls at hl ⊢
  have hl : lv_has ls 4 [(0, .ref (gB g + a0)), (1, .int x1), (2, .int x2), (3, .int x3)] := hl
  show W p l e (rmD 2 0 0) _ _ _ _ _ _ _ _ _ _ _ _
  unfold mX9_relate at hf
  obtain ⟨hO, hf⟩ := oO_sp hf
  obtain ⟨⟨hx, hb, hml, hown, hts⟩, htb, hlk, hkk, hbs⟩ := id C
  refine lv_aload_n hx hb dX9_relate_0 rfl (lv_at hl 0 rfl) ?_
  refine pg_gR C hH fl_X9_19 hf dX9_relate_1 (fun v1 hf => ?_)
  refine lv_iconst (v := (0 : Int32)) hx hb dX9_relate_4 (by decide) ?_
  refine lv_iload_n hx hb dX9_relate_5 rfl (lv_at hl 1 rfl) ?_
  refine pg_Vi (As := [.int (0 : Int32), .int x1]) C hH mi_X8_has vl_X9_104 (q := (RX8, TX8, 8)) (ci := 8) rfl rfl hf (fun _ e1 => (oO_sp e1).1) (fun _ _ e1 => c_X8_has e1) rfl rfl hl.1 (Nat.le_of_ble_eq_true rfl) ⟨Nat.le_of_ble_eq_true rfl, Nat.le_of_ble_eq_true rfl⟩ ⟨Nat.zero_le _, Nat.zero_le _⟩ dX9_relate_6 (fun H locs v6 h6 hH hf => ?_)
  refine lv_if_eq (tgt := 29) hx hb dX9_relate_9 (by decide) (fun cn => ?_) (fun cn => ?_)
  · have hf := (if_pos cn).symm.trans hf
    refine lv_iconst (v := (0 : Int32)) hx hb dX9_relate_29 (by decide) ?_
    exact pg_zret C hr hH hf dX9_relate_30
  · have hf := (if_neg cn).symm.trans hf
    refine lv_aload_n hx hb dX9_relate_12 rfl (lv_at hl 0 rfl) ?_
    refine pg_gR C hH fl_X9_19 hf dX9_relate_13 (fun v13 hf => ?_)
    refine lv_iconst (v := (0 : Int32)) hx hb dX9_relate_16 (by decide) ?_
    refine lv_iload_n hx hb dX9_relate_17 rfl (lv_at hl 2 rfl) ?_
    refine pg_Vi (As := [.int (0 : Int32), .int x2]) C hH mi_X8_has vl_X9_104 (q := (RX8, TX8, 8)) (ci := 8) rfl rfl hf (fun _ e1 => (oO_sp e1).1) (fun _ _ e1 => c_X8_has e1) rfl rfl hl.1 (Nat.le_of_ble_eq_true rfl) ⟨Nat.le_of_ble_eq_true rfl, Nat.le_of_ble_eq_true rfl⟩ ⟨Nat.zero_le _, Nat.zero_le _⟩ dX9_relate_18 (fun H locs v18 h18 hH hf => ?_)
    refine lv_if_eq (tgt := 29) hx hb dX9_relate_21 (by decide) (fun cn => ?_) (fun cn => ?_)
    · have hf := (if_pos cn).symm.trans hf
      refine lv_iconst (v := (0 : Int32)) hx hb dX9_relate_29 (by decide) ?_
      exact pg_zret C hr hH hf dX9_relate_30
    · have hf := (if_neg cn).symm.trans hf
      refine lv_iload_n hx hb dX9_relate_24 rfl (lv_at hl 1 rfl) ?_
      refine lv_iload_n hx hb dX9_relate_25 rfl (lv_at hl 2 rfl) ?_
      refine lv_icmp_ne (tgt := 31) hx hb dX9_relate_26 (by decide) (fun cn => ?_) (fun cn => ?_)
      · have hf := (if_neg cn).symm.trans hf
        refine lv_aload_n hx hb dX9_relate_31 rfl (lv_at hl 0 rfl) ?_
        refine pg_gR C hH fl_X9_19 hf dX9_relate_32 (fun v32 hf => ?_)
        refine lv_iload_n hx hb dX9_relate_35 rfl (lv_at hl 1 rfl) ?_
        refine lv_iload_n hx hb dX9_relate_36 rfl (lv_at hl 2 rfl) ?_
        refine pg_Vi (As := [.int x1, .int x2]) C hH mi_X8_isTold vl_X9_231 (q := (RX8, TX8, 8)) (ci := 8) rfl rfl hf (fun _ e1 => (oO_sp e1).1) (fun _ _ e1 => c_X8_isTold e1) rfl rfl hl.1 (Nat.le_of_ble_eq_true rfl) ⟨Nat.le_of_ble_eq_true rfl, Nat.le_of_ble_eq_true rfl⟩ ⟨Nat.zero_le _, Nat.zero_le _⟩ dX9_relate_37 (fun H locs v37 h37 hH hf => ?_)
        refine lv_iload_n hx hb dX9_relate_40 rfl (lv_at hl 3 rfl) ?_
        refine lv_icmp_eq (tgt := 63) hx hb dX9_relate_41 (by decide) (fun cn => ?_) (fun cn => ?_)
        · have hf := (if_pos cn).symm.trans hf
          refine lv_iconst (v := (0 : Int32)) hx hb dX9_relate_63 (by decide) ?_
          exact pg_zret C hr hH hf dX9_relate_64
        · have hf := (if_neg cn).symm.trans hf
          refine lv_iload_n hx hb dX9_relate_44 rfl (lv_at hl 3 rfl) ?_
          refine lv_if_eq (tgt := 65) hx hb dX9_relate_45 (by decide) (fun cn => ?_) (fun cn => ?_)
          · have hf := (if_pos cn).symm.trans hf
            exact wX9_relate_b65 C hr hH hf (lv_sub hl [0, 1, 2, 3] rfl)
          · have hf := (if_neg cn).symm.trans hf
            refine lv_aload_n hx hb dX9_relate_48 rfl (lv_at hl 0 rfl) ?_
            refine pg_gR C hH fl_X9_19 hf dX9_relate_49 (fun v49 hf => ?_)
            refine pg_gR C hH fl_X9_100 hf dX9_relate_52 (fun v52 hf => ?_)
            refine lv_bipush (v := (13 : Int32)) hx hb dX9_relate_55 (by decide) ?_
            refine pg_aI C hH hf dX9_relate_57 (fun v57 hf => ?_)
            refine lv_bipush (v := (6 : Int32)) hx hb dX9_relate_58 (by decide) ?_
            refine lv_icmp_lt (tgt := 65) hx hb dX9_relate_60 (by decide) (fun cn => ?_) (fun cn => ?_)
            · have hf := (if_pos cn).symm.trans hf
              exact wX9_relate_b65 C hr hH hf (lv_sub hl [0, 1, 2, 3] rfl)
            · have hf := (if_neg cn).symm.trans hf
              refine lv_iconst (v := (0 : Int32)) hx hb dX9_relate_63 (by decide) ?_
              exact pg_zret C hr hH hf dX9_relate_64
      · have hf := (if_pos cn).symm.trans hf
        refine lv_iconst (v := (0 : Int32)) hx hb dX9_relate_29 (by decide) ?_
        exact pg_zret C hr hH hf dX9_relate_30
set_option maxHeartbeats 4000000 in
set_option maxRecDepth 100000 in
theorem c_X9_rule {l : Launch} {g : GD} {h : PH} {a0 : Nat} {x1 : Int32} {x2 : Int32} {r : Int32} {h' : PH} (hf : mX9_rule h a0 x1 x2 = some (r, h')) : Met l yX9_rule (Cond.code yX9_rule cX9_rule 4 (some .int) :: TB) (rmD 2 0 0) (PcH g [.ref (gB g + a0), .int x1, .int x2] h) (QcI g r h') 0 0 (aB g) := by
  refine Met.ofW (cc := cX9_rule) (maxL := 4) (ret := some .int) (by decide) rfl ?_
  intro p e s m args below meth c s₁ B hml hv
  obtain ⟨rfl, hH0, hkk0⟩ := hv
  have C : CT g RX9 cX9_rule 4 (Cond.code yX9_rule cX9_rule 4 (some .int) :: TB) p s m _ meth c := pg_ct (Tw := []) B hml hH0 hkk0
  have hr := B.returns
  have hH : HS g s s.heap [] h := ⟨hH0, va_S.rf⟩
  have hl := lv_entry ([.ref (gB g + a0), .int x1, .int x2]) (n := 4) (Nat.le_of_ble_eq_true rfl)
  rw [lg_entry_eq]
  generalize (lg_sl ([.ref (gB g + a0), .int x1, .int x2]) ++ List.replicate (4 - (lg_sl ([.ref (gB g + a0), .int x1, .int x2])).length) Slot.unset).toArray = ls at hl ⊢
  have hl : lv_has ls 4 [(0, .ref (gB g + a0)), (1, .int x1), (2, .int x2)] := hl
  show W p l e (rmD 2 0 0) _ _ _ _ _ _ _ _ _ _ _ _
  unfold mX9_rule at hf
  obtain ⟨hO, hf⟩ := oO_sp hf
  obtain ⟨⟨hx, hb, hml, hown, hts⟩, htb, hlk, hkk, hbs⟩ := id C
  refine lv_iload_n hx hb dX9_rule_0 rfl (lv_at hl 1 rfl) ?_
  refine lv_if_lt (tgt := 30) hx hb dX9_rule_1 (by decide) (fun cn => ?_) (fun cn => ?_)
  · have hf := (if_pos cn).symm.trans hf
    refine lv_iconst (v := (-1 : Int32)) hx hb dX9_rule_30 (by decide) ?_
    exact pg_iret C hr hH hf dX9_rule_31
  · have hf := (if_neg cn).symm.trans hf
    refine lv_iload_n hx hb dX9_rule_4 rfl (lv_at hl 1 rfl) ?_
    refine pg_gs 0 rfl gs_X9_238 C hH dX9_rule_5 ?_
    refine pg_tN 0 rfl (v := (4 : Int32)) (by decide) C hH dX9_rule_8 ?_
    refine lv_icmp_ge (tgt := 30) hx hb dX9_rule_9 (by decide) (fun cn => ?_) (fun cn => ?_)
    · have hf := (if_pos cn).symm.trans hf
      refine lv_iconst (v := (-1 : Int32)) hx hb dX9_rule_30 (by decide) ?_
      exact pg_iret C hr hH hf dX9_rule_31
    · have hf := (if_neg cn).symm.trans hf
      refine lv_iload_n hx hb dX9_rule_12 rfl (lv_at hl 2 rfl) ?_
      refine pg_gs 0 rfl gs_X9_238 C hH dX9_rule_13 ?_
      refine lv_iload_n hx hb dX9_rule_16 rfl (lv_at hl 1 rfl) ?_
      refine pg_tI C hH hf dX9_rule_17 (fun v17 hf => ?_)
      refine lv_icmp_lt (tgt := 30) hx hb dX9_rule_18 (by decide) (fun cn => ?_) (fun cn => ?_)
      · have hf := (if_pos cn).symm.trans hf
        refine lv_iconst (v := (-1 : Int32)) hx hb dX9_rule_30 (by decide) ?_
        exact pg_iret C hr hH hf dX9_rule_31
      · have hf := (if_neg cn).symm.trans hf
        refine lv_iload_n hx hb dX9_rule_21 rfl (lv_at hl 2 rfl) ?_
        refine pg_gs 1 rfl gs_X9_241 C hH dX9_rule_22 ?_
        refine lv_iload_n hx hb dX9_rule_25 rfl (lv_at hl 1 rfl) ?_
        refine pg_tI C hH hf dX9_rule_26 (fun v26 hf => ?_)
        refine lv_icmp_le (tgt := 32) hx hb dX9_rule_27 (by decide) (fun cn => ?_) (fun cn => ?_)
        · have hf := (if_pos cn).symm.trans hf
          refine lv_aload_n hx hb dX9_rule_32 rfl (lv_at hl 0 rfl) ?_
          refine pg_gR C hH fl_X9_19 hf dX9_rule_33 (fun v33 hf => ?_)
          refine pg_gR C hH fl_X9_100 hf dX9_rule_36 (fun v36 hf => ?_)
          refine lv_bipush (v := (6 : Int32)) hx hb dX9_rule_39 (by decide) ?_
          refine lv_iload_n hx hb dX9_rule_41 rfl (lv_at hl 1 rfl) ?_
          refine lv_iadd hx hb dX9_rule_42 ?_
          refine pg_aI C hH hf dX9_rule_43 (fun v43 hf => ?_)
          refine lv_istore_n (lv' := [(3, .int v43), (0, .ref (gB g + a0)), (1, .int x1), (2, .int x2)]) hx hb dX9_rule_44 rfl hl (by decide) rfl (fun ls hl => ?_)
          refine lv_iload_n hx hb dX9_rule_45 rfl (lv_at hl 0 rfl) ?_
          refine lv_iload_n hx hb dX9_rule_46 rfl (lv_at hl 3 rfl) ?_
          refine lv_icmp_ne (tgt := 52) hx hb dX9_rule_47 (by decide) (fun cn => ?_) (fun cn => ?_)
          · have hf := (if_neg cn).symm.trans hf
            refine lv_aload_n hx hb dX9_rule_52 rfl (lv_at hl 1 rfl) ?_
            refine pg_gR C hH fl_X9_19 hf dX9_rule_53 (fun v53 hf => ?_)
            refine pg_gR C hH fl_X9_100 hf dX9_rule_56 (fun v56 hf => ?_)
            refine lv_bipush (v := (6 : Int32)) hx hb dX9_rule_59 (by decide) ?_
            refine lv_iload_n hx hb dX9_rule_61 rfl (lv_at hl 2 rfl) ?_
            refine lv_iadd hx hb dX9_rule_62 ?_
            refine lv_iload_n hx hb dX9_rule_63 rfl (lv_at hl 3 rfl) ?_
            refine pg_sI C hH hf dX9_rule_64 (fun H locs h64 hH hf => ?_)
            refine lv_aload_n hx hb dX9_rule_65 rfl (lv_at hl 1 rfl) ?_
            refine pg_gR C hH fl_X9_67 hf dX9_rule_66 (fun v66 hf => ?_)
            refine lv_iconst (v := (3 : Int32)) hx hb dX9_rule_69 (by decide) ?_
            refine lv_iload_n hx hb dX9_rule_70 rfl (lv_at hl 2 rfl) ?_
            refine lv_iconst (v := (0 : Int32)) hx hb dX9_rule_71 (by decide) ?_
            refine lv_iload_n hx hb dX9_rule_72 rfl (lv_at hl 0 rfl) ?_
            refine pg_Vv (As := [.int (3 : Int32), .int x1, .int (0 : Int32), .int v43]) C hH mi_X0_add vl_X9_228 (q := (RX0, TX0, 3)) (ci := 0) rfl rfl hf (fun _ e1 => (oO_sp e1).1) (fun _ e1 => c_X0_add e1) rfl rfl hl.1 (Nat.le_of_ble_eq_true rfl) ⟨Nat.le_of_ble_eq_true rfl, Nat.le_of_ble_eq_true rfl⟩ ⟨Nat.zero_le _, Nat.zero_le _⟩ dX9_rule_73 (fun H locs h73 hH hf => ?_)
            refine lv_iload_n hx hb dX9_rule_76 rfl (lv_at hl 0 rfl) ?_
            exact pg_iret C hr hH hf dX9_rule_77
          · have hf := (if_pos cn).symm.trans hf
            refine lv_iconst (v := (-1 : Int32)) hx hb dX9_rule_50 (by decide) ?_
            exact pg_iret C hr hH hf dX9_rule_51
        · have hf := (if_neg cn).symm.trans hf
          refine lv_iconst (v := (-1 : Int32)) hx hb dX9_rule_30 (by decide) ?_
          exact pg_iret C hr hH hf dX9_rule_31
set_option maxHeartbeats 4000000 in
set_option maxRecDepth 100000 in
theorem c_X9_turn {l : Launch} {g : GD} {h : PH} {a0 : Nat} {r : Int32} {h' : PH} (hf : mX9_turn h a0 = some (r, h')) : Met l yX9_turn (Cond.code yX9_turn cX9_turn 2 (some .int) :: TB) (rmD 2 0 0) (PcH g [.ref (gB g + a0)] h) (QcI g r h') 0 0 (aB g) := by
  refine Met.ofW (cc := cX9_turn) (maxL := 2) (ret := some .int) (by decide) rfl ?_
  intro p e s m args below meth c s₁ B hml hv
  obtain ⟨rfl, hH0, hkk0⟩ := hv
  have C : CT g RX9 cX9_turn 2 (Cond.code yX9_turn cX9_turn 2 (some .int) :: TB) p s m _ meth c := pg_ct (Tw := []) B hml hH0 hkk0
  have hr := B.returns
  have hH : HS g s s.heap [] h := ⟨hH0, va_S.rf⟩
  have hl := lv_entry ([.ref (gB g + a0)]) (n := 2) (Nat.le_of_ble_eq_true rfl)
  rw [lg_entry_eq]
  generalize (lg_sl ([.ref (gB g + a0)]) ++ List.replicate (2 - (lg_sl ([.ref (gB g + a0)])).length) Slot.unset).toArray = ls at hl ⊢
  have hl : lv_has ls 2 [(0, .ref (gB g + a0))] := hl
  show W p l e (rmD 2 0 0) _ _ _ _ _ _ _ _ _ _ _ _
  unfold mX9_turn at hf
  obtain ⟨hO, hf⟩ := oO_sp hf
  obtain ⟨⟨hx, hb, hml, hown, hts⟩, htb, hlk, hkk, hbs⟩ := id C
  refine lv_aload_n hx hb dX9_turn_0 rfl (lv_at hl 0 rfl) ?_
  refine pg_gR C hH fl_X9_19 hf dX9_turn_1 (fun v1 hf => ?_)
  refine pg_gR C hH fl_X9_100 hf dX9_turn_4 (fun v4 hf => ?_)
  refine lv_bipush (v := (10 : Int32)) hx hb dX9_turn_7 (by decide) ?_
  refine pg_aI C hH hf dX9_turn_9 (fun v9 hf => ?_)
  refine lv_istore_n (lv' := [(1, .int v9), (0, .ref (gB g + a0))]) hx hb dX9_turn_10 rfl hl (by decide) rfl (fun ls hl => ?_)
  refine lv_aload_n hx hb dX9_turn_11 rfl (lv_at hl 1 rfl) ?_
  refine pg_gR C hH fl_X9_19 hf dX9_turn_12 (fun v12 hf => ?_)
  refine pg_gR C hH fl_X9_100 hf dX9_turn_15 (fun v15 hf => ?_)
  refine lv_bipush (v := (10 : Int32)) hx hb dX9_turn_18 (by decide) ?_
  refine lv_iconst (v := (1 : Int32)) hx hb dX9_turn_20 (by decide) ?_
  refine lv_iload_n hx hb dX9_turn_21 rfl (lv_at hl 0 rfl) ?_
  refine lv_isub hx hb dX9_turn_22 ?_
  refine pg_sI C hH hf dX9_turn_23 (fun H locs h23 hH hf => ?_)
  refine lv_aload_n hx hb dX9_turn_24 rfl (lv_at hl 1 rfl) ?_
  refine pg_gR C hH fl_X9_67 hf dX9_turn_25 (fun v25 hf => ?_)
  refine lv_iconst (v := (4 : Int32)) hx hb dX9_turn_28 (by decide) ?_
  refine lv_iconst (v := (0 : Int32)) hx hb dX9_turn_29 (by decide) ?_
  refine lv_iconst (v := (0 : Int32)) hx hb dX9_turn_30 (by decide) ?_
  refine lv_iload_n hx hb dX9_turn_31 rfl (lv_at hl 0 rfl) ?_
  refine pg_Vv (As := [.int (4 : Int32), .int (0 : Int32), .int (0 : Int32), .int v9]) C hH mi_X0_add vl_X9_228 (q := (RX0, TX0, 3)) (ci := 0) rfl rfl hf (fun _ e1 => (oO_sp e1).1) (fun _ e1 => c_X0_add e1) rfl rfl hl.1 (Nat.le_of_ble_eq_true rfl) ⟨Nat.le_of_ble_eq_true rfl, Nat.le_of_ble_eq_true rfl⟩ ⟨Nat.zero_le _, Nat.zero_le _⟩ dX9_turn_32 (fun H locs h32 hH hf => ?_)
  refine lv_iconst (v := (1 : Int32)) hx hb dX9_turn_35 (by decide) ?_
  refine lv_iload_n hx hb dX9_turn_36 rfl (lv_at hl 0 rfl) ?_
  refine lv_isub hx hb dX9_turn_37 ?_
  exact pg_iret C hr hH hf dX9_turn_38
set_option maxHeartbeats 4000000 in
set_option maxRecDepth 100000 in
theorem wX9_resell_b42 {r : Int32} {h' : PH} (C : CT g RX9 cX9_resell 7 (Cond.code yX9_resell cX9_resell 7 (some .int) :: TB) p s m args meth c) (hr : meth.sig.returnType = some .int) {h : PH} {a0 : Nat} {x1 : Int32} {x2 : Int32} {x3 : Int32} {x4 : Int32} {s0 : Int32} {H : Heap} {locs : List Loc} {ls : Array Slot} (hH : HS g s H locs h) (hf : mX9_resell_b42 h a0 x1 x2 x3 x4 s0 = some (r, h')) (hl : lv_has ls 7 [(0, .ref (gB g + a0)), (1, .int x1), (2, .int x2), (3, .int x3), (4, .int x4)]) : W p l e (rmD 2 0 0) s m args below meth c H locs 0 0 (MQ below (QcI g r h') args s 0 0 (aB g)) (F0 m 42 ls [.int s0]) := by
  obtain ⟨⟨hx, hb, hml, hown, hts⟩, htb, hlk, hkk, hbs⟩ := id C
  unfold mX9_resell_b42 at hf
  refine lv_istore (lv' := [(5, .int s0), (0, .ref (gB g + a0)), (1, .int x1), (2, .int x2), (3, .int x3), (4, .int x4)]) hx hb dX9_resell_42 hl (by decide) rfl (fun ls hl => ?_)
  refine lv_aload_n hx hb dX9_resell_44 rfl (lv_at hl 1 rfl) ?_
  refine pg_gR C hH fl_X9_19 hf dX9_resell_45 (fun v45 hf => ?_)
  refine pg_gR C hH fl_X9_100 hf dX9_resell_48 (fun v48 hf => ?_)
  refine lv_iconst (v := (4 : Int32)) hx hb dX9_resell_51 (by decide) ?_
  refine pg_aI C hH hf dX9_resell_52 (fun v52 hf => ?_)
  refine lv_istore (lv' := [(6, .int v52), (5, .int s0), (0, .ref (gB g + a0)), (1, .int x1), (2, .int x2), (3, .int x3), (4, .int x4)]) hx hb dX9_resell_53 hl (by decide) rfl (fun ls hl => ?_)
  refine lv_iload hx hb dX9_resell_55 (lv_at hl 1 rfl) ?_
  refine lv_if_eq (tgt := 79) hx hb dX9_resell_57 (by decide) (fun cn => ?_) (fun cn => ?_)
  · have hf := (if_pos cn).symm.trans hf
    refine lv_iconst (v := (-1 : Int32)) hx hb dX9_resell_79 (by decide) ?_
    exact pg_iret C hr hH hf dX9_resell_80
  · have hf := (if_neg cn).symm.trans hf
    refine lv_aload_n hx hb dX9_resell_60 rfl (lv_at hl 2 rfl) ?_
    refine pg_gR C hH fl_X9_19 hf dX9_resell_61 (fun v61 hf => ?_)
    refine lv_iconst (v := (1 : Int32)) hx hb dX9_resell_64 (by decide) ?_
    refine lv_iload_n hx hb dX9_resell_65 rfl (lv_at hl 3 rfl) ?_
    refine pg_Vi (As := [.int (1 : Int32), .int x1]) C hH mi_X8_has vl_X9_104 (q := (RX8, TX8, 8)) (ci := 8) rfl rfl hf (fun _ e1 => (oO_sp e1).1) (fun _ _ e1 => c_X8_has e1) rfl rfl hl.1 (Nat.le_of_ble_eq_true rfl) ⟨Nat.le_of_ble_eq_true rfl, Nat.le_of_ble_eq_true rfl⟩ ⟨Nat.zero_le _, Nat.zero_le _⟩ dX9_resell_66 (fun H locs v66 h66 hH hf => ?_)
    refine lv_if_eq (tgt := 79) hx hb dX9_resell_69 (by decide) (fun cn => ?_) (fun cn => ?_)
    · have hf := (if_pos cn).symm.trans hf
      refine lv_iconst (v := (-1 : Int32)) hx hb dX9_resell_79 (by decide) ?_
      exact pg_iret C hr hH hf dX9_resell_80
    · have hf := (if_neg cn).symm.trans hf
      refine lv_iload hx hb dX9_resell_72 (lv_at hl 0 rfl) ?_
      refine lv_bipush (v := (12 : Int32)) hx hb dX9_resell_74 (by decide) ?_
      refine lv_icmp_lt (tgt := 81) hx hb dX9_resell_76 (by decide) (fun cn => ?_) (fun cn => ?_)
      · have hf := (if_pos cn).symm.trans hf
        refine lv_aload_n hx hb dX9_resell_81 rfl (lv_at hl 2 rfl) ?_
        refine pg_gR C hH fl_X9_19 hf dX9_resell_82 (fun v82 hf => ?_)
        refine pg_gR C hH fl_X9_118 hf dX9_resell_85 (fun v85 hf => ?_)
        refine lv_iload hx hb dX9_resell_88 (lv_at hl 0 rfl) ?_
        refine pg_aR C hH (Or.inr rfl) hf dX9_resell_90 (fun v90 hf => ?_)
        refine lv_iconst (v := (0 : Int32)) hx hb dX9_resell_91 (by decide) ?_
        refine lv_iload_n hx hb dX9_resell_92 rfl (lv_at hl 3 rfl) ?_
        refine pg_sI C hH hf dX9_resell_93 (fun H locs h93 hH hf => ?_)
        refine lv_aload_n hx hb dX9_resell_94 rfl (lv_at hl 2 rfl) ?_
        refine pg_gR C hH fl_X9_19 hf dX9_resell_95 (fun v95 hf => ?_)
        refine pg_gR C hH fl_X9_118 hf dX9_resell_98 (fun v98 hf => ?_)
        refine lv_iload hx hb dX9_resell_101 (lv_at hl 0 rfl) ?_
        refine pg_aR C hH (Or.inr rfl) hf dX9_resell_103 (fun v103 hf => ?_)
        refine lv_iconst (v := (1 : Int32)) hx hb dX9_resell_104 (by decide) ?_
        refine lv_iload_n hx hb dX9_resell_105 rfl (lv_at hl 4 rfl) ?_
        refine pg_sI C hH hf dX9_resell_106 (fun H locs h106 hH hf => ?_)
        refine lv_aload_n hx hb dX9_resell_107 rfl (lv_at hl 2 rfl) ?_
        refine pg_gR C hH fl_X9_19 hf dX9_resell_108 (fun v108 hf => ?_)
        refine pg_gR C hH fl_X9_118 hf dX9_resell_111 (fun v111 hf => ?_)
        refine lv_iload hx hb dX9_resell_114 (lv_at hl 0 rfl) ?_
        refine pg_aR C hH (Or.inr rfl) hf dX9_resell_116 (fun v116 hf => ?_)
        refine lv_iconst (v := (2 : Int32)) hx hb dX9_resell_117 (by decide) ?_
        refine lv_iload_n hx hb dX9_resell_118 rfl (lv_at hl 5 rfl) ?_
        refine pg_sI C hH hf dX9_resell_119 (fun H locs h119 hH hf => ?_)
        refine lv_aload_n hx hb dX9_resell_120 rfl (lv_at hl 2 rfl) ?_
        refine pg_gR C hH fl_X9_19 hf dX9_resell_121 (fun v121 hf => ?_)
        refine pg_gR C hH fl_X9_118 hf dX9_resell_124 (fun v124 hf => ?_)
        refine lv_iload hx hb dX9_resell_127 (lv_at hl 0 rfl) ?_
        refine pg_aR C hH (Or.inr rfl) hf dX9_resell_129 (fun v129 hf => ?_)
        refine lv_iconst (v := (3 : Int32)) hx hb dX9_resell_130 (by decide) ?_
        refine lv_iload hx hb dX9_resell_131 (lv_at hl 6 rfl) ?_
        refine pg_sI C hH hf dX9_resell_133 (fun H locs h133 hH hf => ?_)
        refine lv_aload_n hx hb dX9_resell_134 rfl (lv_at hl 2 rfl) ?_
        refine pg_gR C hH fl_X9_19 hf dX9_resell_135 (fun v135 hf => ?_)
        refine pg_gR C hH fl_X9_100 hf dX9_resell_138 (fun v138 hf => ?_)
        refine lv_iconst (v := (4 : Int32)) hx hb dX9_resell_141 (by decide) ?_
        refine lv_iload hx hb dX9_resell_142 (lv_at hl 0 rfl) ?_
        refine lv_iconst (v := (1 : Int32)) hx hb dX9_resell_144 (by decide) ?_
        refine lv_iadd hx hb dX9_resell_145 ?_
        refine pg_sI C hH hf dX9_resell_146 (fun H locs h146 hH hf => ?_)
        refine lv_aload_n hx hb dX9_resell_147 rfl (lv_at hl 2 rfl) ?_
        refine pg_gR C hH fl_X9_67 hf dX9_resell_148 (fun v148 hf => ?_)
        refine lv_iconst (v := (5 : Int32)) hx hb dX9_resell_151 (by decide) ?_
        refine lv_iconst (v := (0 : Int32)) hx hb dX9_resell_152 (by decide) ?_
        refine lv_iconst (v := (0 : Int32)) hx hb dX9_resell_153 (by decide) ?_
        refine lv_iload hx hb dX9_resell_154 (lv_at hl 0 rfl) ?_
        refine pg_Vv (As := [.int (5 : Int32), .int (0 : Int32), .int (0 : Int32), .int v52]) C hH mi_X0_add vl_X9_228 (q := (RX0, TX0, 3)) (ci := 0) rfl rfl hf (fun _ e1 => (oO_sp e1).1) (fun _ e1 => c_X0_add e1) rfl rfl hl.1 (Nat.le_of_ble_eq_true rfl) ⟨Nat.le_of_ble_eq_true rfl, Nat.le_of_ble_eq_true rfl⟩ ⟨Nat.zero_le _, Nat.zero_le _⟩ dX9_resell_156 (fun H locs h156 hH hf => ?_)
        refine lv_iload hx hb dX9_resell_159 (lv_at hl 0 rfl) ?_
        exact pg_iret C hr hH hf dX9_resell_161
      · have hf := (if_neg cn).symm.trans hf
        refine lv_iconst (v := (-1 : Int32)) hx hb dX9_resell_79 (by decide) ?_
        exact pg_iret C hr hH hf dX9_resell_80
set_option maxHeartbeats 4000000 in
set_option maxRecDepth 100000 in
theorem wX9_resell_b41 {r : Int32} {h' : PH} (C : CT g RX9 cX9_resell 7 (Cond.code yX9_resell cX9_resell 7 (some .int) :: TB) p s m args meth c) (hr : meth.sig.returnType = some .int) {h : PH} {a0 : Nat} {x1 : Int32} {x2 : Int32} {x3 : Int32} {x4 : Int32} {H : Heap} {locs : List Loc} {ls : Array Slot} (hH : HS g s H locs h) (hf : mX9_resell_b41 h a0 x1 x2 x3 x4 = some (r, h')) (hl : lv_has ls 7 [(0, .ref (gB g + a0)), (1, .int x1), (2, .int x2), (3, .int x3), (4, .int x4)]) : W p l e (rmD 2 0 0) s m args below meth c H locs 0 0 (MQ below (QcI g r h') args s 0 0 (aB g)) (F0 m 41 ls []) := by
  obtain ⟨⟨hx, hb, hml, hown, hts⟩, htb, hlk, hkk, hbs⟩ := id C
  unfold mX9_resell_b41 at hf
  refine lv_iconst (v := (0 : Int32)) hx hb dX9_resell_41 (by decide) ?_
  exact wX9_resell_b42 C hr hH hf (lv_sub hl [0, 1, 2, 3, 4] rfl)
set_option maxHeartbeats 4000000 in
set_option maxRecDepth 100000 in
theorem c_X9_resell {l : Launch} {g : GD} {h : PH} {a0 : Nat} {x1 : Int32} {x2 : Int32} {x3 : Int32} {x4 : Int32} {r : Int32} {h' : PH} (hf : mX9_resell h a0 x1 x2 x3 x4 = some (r, h')) : Met l yX9_resell (Cond.code yX9_resell cX9_resell 7 (some .int) :: TB) (rmD 2 0 0) (PcH g [.ref (gB g + a0), .int x1, .int x2, .int x3, .int x4] h) (QcI g r h') 0 0 (aB g) := by
  refine Met.ofW (cc := cX9_resell) (maxL := 7) (ret := some .int) (by decide) rfl ?_
  intro p e s m args below meth c s₁ B hml hv
  obtain ⟨rfl, hH0, hkk0⟩ := hv
  have C : CT g RX9 cX9_resell 7 (Cond.code yX9_resell cX9_resell 7 (some .int) :: TB) p s m _ meth c := pg_ct (Tw := []) B hml hH0 hkk0
  have hr := B.returns
  have hH : HS g s s.heap [] h := ⟨hH0, va_S.rf⟩
  have hl := lv_entry ([.ref (gB g + a0), .int x1, .int x2, .int x3, .int x4]) (n := 7) (Nat.le_of_ble_eq_true rfl)
  rw [lg_entry_eq]
  generalize (lg_sl ([.ref (gB g + a0), .int x1, .int x2, .int x3, .int x4]) ++ List.replicate (7 - (lg_sl ([.ref (gB g + a0), .int x1, .int x2, .int x3, .int x4])).length) Slot.unset).toArray = ls at hl ⊢
  have hl : lv_has ls 7 [(0, .ref (gB g + a0)), (1, .int x1), (2, .int x2), (3, .int x3), (4, .int x4)] := hl
  show W p l e (rmD 2 0 0) _ _ _ _ _ _ _ _ _ _ _ _
  unfold mX9_resell at hf
  obtain ⟨hO, hf⟩ := oO_sp hf
  obtain ⟨⟨hx, hb, hml, hown, hts⟩, htb, hlk, hkk, hbs⟩ := id C
  refine lv_iload_n hx hb dX9_resell_0 rfl (lv_at hl 2 rfl) ?_
  refine lv_iconst (v := (1 : Int32)) hx hb dX9_resell_1 (by decide) ?_
  refine lv_icmp_lt (tgt := 41) hx hb dX9_resell_2 (by decide) (fun cn => ?_) (fun cn => ?_)
  · have hf := (if_pos cn).symm.trans hf
    exact wX9_resell_b41 C hr hH hf (lv_sub hl [0, 1, 2, 3, 4] rfl)
  · have hf := (if_neg cn).symm.trans hf
    refine lv_iload_n hx hb dX9_resell_5 rfl (lv_at hl 2 rfl) ?_
    refine lv_sipush (v := (9999 : Int32)) hx hb dX9_resell_6 (by decide) ?_
    refine lv_icmp_gt (tgt := 41) hx hb dX9_resell_9 (by decide) (fun cn => ?_) (fun cn => ?_)
    · have hf := (if_pos cn).symm.trans hf
      exact wX9_resell_b41 C hr hH hf (lv_sub hl [0, 1, 2, 3, 4] rfl)
    · have hf := (if_neg cn).symm.trans hf
      refine lv_iload_n hx hb dX9_resell_12 rfl (lv_at hl 3 rfl) ?_
      refine lv_iconst (v := (1 : Int32)) hx hb dX9_resell_13 (by decide) ?_
      refine lv_icmp_lt (tgt := 41) hx hb dX9_resell_14 (by decide) (fun cn => ?_) (fun cn => ?_)
      · have hf := (if_pos cn).symm.trans hf
        exact wX9_resell_b41 C hr hH hf (lv_sub hl [0, 1, 2, 3, 4] rfl)
      · have hf := (if_neg cn).symm.trans hf
        refine lv_iload_n hx hb dX9_resell_17 rfl (lv_at hl 3 rfl) ?_
        refine lv_sipush (v := (9999 : Int32)) hx hb dX9_resell_18 (by decide) ?_
        refine lv_icmp_gt (tgt := 41) hx hb dX9_resell_21 (by decide) (fun cn => ?_) (fun cn => ?_)
        · have hf := (if_pos cn).symm.trans hf
          exact wX9_resell_b41 C hr hH hf (lv_sub hl [0, 1, 2, 3, 4] rfl)
        · have hf := (if_neg cn).symm.trans hf
          refine lv_iload hx hb dX9_resell_24 (lv_at hl 4 rfl) ?_
          refine lv_if_lt (tgt := 41) hx hb dX9_resell_26 (by decide) (fun cn => ?_) (fun cn => ?_)
          · have hf := (if_pos cn).symm.trans hf
            exact wX9_resell_b41 C hr hH hf (lv_sub hl [0, 1, 2, 3, 4] rfl)
          · have hf := (if_neg cn).symm.trans hf
            refine lv_iload hx hb dX9_resell_29 (lv_at hl 4 rfl) ?_
            refine lv_sipush (v := (999 : Int32)) hx hb dX9_resell_31 (by decide) ?_
            refine lv_icmp_gt (tgt := 41) hx hb dX9_resell_34 (by decide) (fun cn => ?_) (fun cn => ?_)
            · have hf := (if_pos cn).symm.trans hf
              exact wX9_resell_b41 C hr hH hf (lv_sub hl [0, 1, 2, 3, 4] rfl)
            · have hf := (if_neg cn).symm.trans hf
              refine lv_iconst (v := (1 : Int32)) hx hb dX9_resell_37 (by decide) ?_
              refine lv_goto (tgt := 42) hx hb dX9_resell_38 (by decide) ?_
              exact wX9_resell_b42 C hr hH hf (lv_sub hl [0, 1, 2, 3, 4] rfl)
set_option maxHeartbeats 4000000 in
set_option maxRecDepth 100000 in
theorem c_X9_spread {l : Launch} {g : GD} {h : PH} {a0 : Nat} {x1 : Int32} {x2 : Int32} {r : Int32} {h' : PH} (hf : mX9_spread h a0 x1 x2 = some (r, h')) : Met l yX9_spread (Cond.code yX9_spread cX9_spread 4 (some .int) :: TB) (rmD 2 0 0) (PcH g [.ref (gB g + a0), .int x1, .int x2] h) (QcI g r h') 0 0 (aB g) := by
  refine Met.ofW (cc := cX9_spread) (maxL := 4) (ret := some .int) (by decide) rfl ?_
  intro p e s m args below meth c s₁ B hml hv
  obtain ⟨rfl, hH0, hkk0⟩ := hv
  have C : CT g RX9 cX9_spread 4 (Cond.code yX9_spread cX9_spread 4 (some .int) :: TB) p s m _ meth c := pg_ct (Tw := []) B hml hH0 hkk0
  have hr := B.returns
  have hH : HS g s s.heap [] h := ⟨hH0, va_S.rf⟩
  have hl := lv_entry ([.ref (gB g + a0), .int x1, .int x2]) (n := 4) (Nat.le_of_ble_eq_true rfl)
  rw [lg_entry_eq]
  generalize (lg_sl ([.ref (gB g + a0), .int x1, .int x2]) ++ List.replicate (4 - (lg_sl ([.ref (gB g + a0), .int x1, .int x2])).length) Slot.unset).toArray = ls at hl ⊢
  have hl : lv_has ls 4 [(0, .ref (gB g + a0)), (1, .int x1), (2, .int x2)] := hl
  show W p l e (rmD 2 0 0) _ _ _ _ _ _ _ _ _ _ _ _
  unfold mX9_spread at hf
  obtain ⟨hO, hf⟩ := oO_sp hf
  obtain ⟨⟨hx, hb, hml, hown, hts⟩, htb, hlk, hkk, hbs⟩ := id C
  refine lv_aload_n hx hb dX9_spread_0 rfl (lv_at hl 0 rfl) ?_
  refine pg_gR C hH fl_X9_19 hf dX9_spread_1 (fun v1 hf => ?_)
  refine lv_iconst (v := (2 : Int32)) hx hb dX9_spread_4 (by decide) ?_
  refine lv_iload_n hx hb dX9_spread_5 rfl (lv_at hl 1 rfl) ?_
  refine pg_Vi (As := [.int (2 : Int32), .int x1]) C hH mi_X8_has vl_X9_104 (q := (RX8, TX8, 8)) (ci := 8) rfl rfl hf (fun _ e1 => (oO_sp e1).1) (fun _ _ e1 => c_X8_has e1) rfl rfl hl.1 (Nat.le_of_ble_eq_true rfl) ⟨Nat.le_of_ble_eq_true rfl, Nat.le_of_ble_eq_true rfl⟩ ⟨Nat.zero_le _, Nat.zero_le _⟩ dX9_spread_6 (fun H locs v6 h6 hH hf => ?_)
  refine lv_if_eq (tgt := 38) hx hb dX9_spread_9 (by decide) (fun cn => ?_) (fun cn => ?_)
  · have hf := (if_pos cn).symm.trans hf
    refine lv_iconst (v := (-1 : Int32)) hx hb dX9_spread_38 (by decide) ?_
    exact pg_iret C hr hH hf dX9_spread_39
  · have hf := (if_neg cn).symm.trans hf
    refine lv_iload_n hx hb dX9_spread_12 rfl (lv_at hl 2 rfl) ?_
    refine lv_if_lt (tgt := 38) hx hb dX9_spread_13 (by decide) (fun cn => ?_) (fun cn => ?_)
    · have hf := (if_pos cn).symm.trans hf
      refine lv_iconst (v := (-1 : Int32)) hx hb dX9_spread_38 (by decide) ?_
      exact pg_iret C hr hH hf dX9_spread_39
    · have hf := (if_neg cn).symm.trans hf
      refine lv_iload_n hx hb dX9_spread_16 rfl (lv_at hl 2 rfl) ?_
      refine lv_sipush (v := (9999 : Int32)) hx hb dX9_spread_17 (by decide) ?_
      refine lv_icmp_gt (tgt := 38) hx hb dX9_spread_20 (by decide) (fun cn => ?_) (fun cn => ?_)
      · have hf := (if_pos cn).symm.trans hf
        refine lv_iconst (v := (-1 : Int32)) hx hb dX9_spread_38 (by decide) ?_
        exact pg_iret C hr hH hf dX9_spread_39
      · have hf := (if_neg cn).symm.trans hf
        refine lv_aload_n hx hb dX9_spread_23 rfl (lv_at hl 0 rfl) ?_
        refine pg_gR C hH fl_X9_19 hf dX9_spread_24 (fun v24 hf => ?_)
        refine pg_gR C hH fl_X9_133 hf dX9_spread_27 (fun v27 hf => ?_)
        refine lv_iload_n hx hb dX9_spread_30 rfl (lv_at hl 1 rfl) ?_
        refine pg_aR C hH (Or.inr rfl) hf dX9_spread_31 (fun v31 hf => ?_)
        refine lv_iconst (v := (1 : Int32)) hx hb dX9_spread_32 (by decide) ?_
        refine pg_aI C hH hf dX9_spread_33 (fun v33 hf => ?_)
        refine lv_iload_n hx hb dX9_spread_34 rfl (lv_at hl 2 rfl) ?_
        refine lv_icmp_ne (tgt := 40) hx hb dX9_spread_35 (by decide) (fun cn => ?_) (fun cn => ?_)
        · have hf := (if_neg cn).symm.trans hf
          refine lv_aload_n hx hb dX9_spread_40 rfl (lv_at hl 0 rfl) ?_
          refine pg_gR C hH fl_X9_19 hf dX9_spread_41 (fun v41 hf => ?_)
          refine pg_gR C hH fl_X9_133 hf dX9_spread_44 (fun v44 hf => ?_)
          refine lv_iload_n hx hb dX9_spread_47 rfl (lv_at hl 1 rfl) ?_
          refine pg_aR C hH (Or.inr rfl) hf dX9_spread_48 (fun v48 hf => ?_)
          refine lv_iconst (v := (1 : Int32)) hx hb dX9_spread_49 (by decide) ?_
          refine pg_aI C hH hf dX9_spread_50 (fun v50 hf => ?_)
          refine lv_istore_n (lv' := [(3, .int v50), (0, .ref (gB g + a0)), (1, .int x1), (2, .int x2)]) hx hb dX9_spread_51 rfl hl (by decide) rfl (fun ls hl => ?_)
          refine lv_aload_n hx hb dX9_spread_52 rfl (lv_at hl 1 rfl) ?_
          refine pg_gR C hH fl_X9_19 hf dX9_spread_53 (fun v53 hf => ?_)
          refine pg_gR C hH fl_X9_133 hf dX9_spread_56 (fun v56 hf => ?_)
          refine lv_iload_n hx hb dX9_spread_59 rfl (lv_at hl 2 rfl) ?_
          refine pg_aR C hH (Or.inr rfl) hf dX9_spread_60 (fun v60 hf => ?_)
          refine lv_iconst (v := (1 : Int32)) hx hb dX9_spread_61 (by decide) ?_
          refine lv_iload_n hx hb dX9_spread_62 rfl (lv_at hl 3 rfl) ?_
          refine pg_sI C hH hf dX9_spread_63 (fun H locs h63 hH hf => ?_)
          refine lv_aload_n hx hb dX9_spread_64 rfl (lv_at hl 1 rfl) ?_
          refine pg_gR C hH fl_X9_67 hf dX9_spread_65 (fun v65 hf => ?_)
          refine lv_bipush (v := (6 : Int32)) hx hb dX9_spread_68 (by decide) ?_
          refine lv_iload_n hx hb dX9_spread_70 rfl (lv_at hl 2 rfl) ?_
          refine lv_iconst (v := (0 : Int32)) hx hb dX9_spread_71 (by decide) ?_
          refine lv_iload_n hx hb dX9_spread_72 rfl (lv_at hl 0 rfl) ?_
          refine pg_Vv (As := [.int (6 : Int32), .int x1, .int (0 : Int32), .int v50]) C hH mi_X0_add vl_X9_228 (q := (RX0, TX0, 3)) (ci := 0) rfl rfl hf (fun _ e1 => (oO_sp e1).1) (fun _ e1 => c_X0_add e1) rfl rfl hl.1 (Nat.le_of_ble_eq_true rfl) ⟨Nat.le_of_ble_eq_true rfl, Nat.le_of_ble_eq_true rfl⟩ ⟨Nat.zero_le _, Nat.zero_le _⟩ dX9_spread_73 (fun H locs h73 hH hf => ?_)
          refine lv_iload_n hx hb dX9_spread_76 rfl (lv_at hl 0 rfl) ?_
          exact pg_iret C hr hH hf dX9_spread_77
        · have hf := (if_pos cn).symm.trans hf
          refine lv_iconst (v := (-1 : Int32)) hx hb dX9_spread_38 (by decide) ?_
          exact pg_iret C hr hH hf dX9_spread_39
set_option maxHeartbeats 4000000 in
set_option maxRecDepth 100000 in
theorem c_X9_lessen {l : Launch} {g : GD} {h : PH} {a0 : Nat} {x1 : Int32} {x2 : Int32} {r : Int32} {h' : PH} (hf : mX9_lessen h a0 x1 x2 = some (r, h')) : Met l yX9_lessen (Cond.code yX9_lessen cX9_lessen 4 (some .int) :: TB) (rmD 2 0 0) (PcH g [.ref (gB g + a0), .int x1, .int x2] h) (QcI g r h') 0 0 (aB g) := by
  refine Met.ofW (cc := cX9_lessen) (maxL := 4) (ret := some .int) (by decide) rfl ?_
  intro p e s m args below meth c s₁ B hml hv
  obtain ⟨rfl, hH0, hkk0⟩ := hv
  have C : CT g RX9 cX9_lessen 4 (Cond.code yX9_lessen cX9_lessen 4 (some .int) :: TB) p s m _ meth c := pg_ct (Tw := []) B hml hH0 hkk0
  have hr := B.returns
  have hH : HS g s s.heap [] h := ⟨hH0, va_S.rf⟩
  have hl := lv_entry ([.ref (gB g + a0), .int x1, .int x2]) (n := 4) (Nat.le_of_ble_eq_true rfl)
  rw [lg_entry_eq]
  generalize (lg_sl ([.ref (gB g + a0), .int x1, .int x2]) ++ List.replicate (4 - (lg_sl ([.ref (gB g + a0), .int x1, .int x2])).length) Slot.unset).toArray = ls at hl ⊢
  have hl : lv_has ls 4 [(0, .ref (gB g + a0)), (1, .int x1), (2, .int x2)] := hl
  show W p l e (rmD 2 0 0) _ _ _ _ _ _ _ _ _ _ _ _
  unfold mX9_lessen at hf
  obtain ⟨hO, hf⟩ := oO_sp hf
  obtain ⟨⟨hx, hb, hml, hown, hts⟩, htb, hlk, hkk, hbs⟩ := id C
  refine lv_aload_n hx hb dX9_lessen_0 rfl (lv_at hl 0 rfl) ?_
  refine pg_gR C hH fl_X9_19 hf dX9_lessen_1 (fun v1 hf => ?_)
  refine lv_iconst (v := (5 : Int32)) hx hb dX9_lessen_4 (by decide) ?_
  refine lv_iload_n hx hb dX9_lessen_5 rfl (lv_at hl 1 rfl) ?_
  refine pg_Vi (As := [.int (5 : Int32), .int x1]) C hH mi_X8_has vl_X9_104 (q := (RX8, TX8, 8)) (ci := 8) rfl rfl hf (fun _ e1 => (oO_sp e1).1) (fun _ _ e1 => c_X8_has e1) rfl rfl hl.1 (Nat.le_of_ble_eq_true rfl) ⟨Nat.le_of_ble_eq_true rfl, Nat.le_of_ble_eq_true rfl⟩ ⟨Nat.zero_le _, Nat.zero_le _⟩ dX9_lessen_6 (fun H locs v6 h6 hH hf => ?_)
  refine lv_if_eq (tgt := 37) hx hb dX9_lessen_9 (by decide) (fun cn => ?_) (fun cn => ?_)
  · have hf := (if_pos cn).symm.trans hf
    refine lv_iconst (v := (-1 : Int32)) hx hb dX9_lessen_37 (by decide) ?_
    exact pg_iret C hr hH hf dX9_lessen_38
  · have hf := (if_neg cn).symm.trans hf
    refine lv_iload_n hx hb dX9_lessen_12 rfl (lv_at hl 2 rfl) ?_
    refine lv_if_lt (tgt := 37) hx hb dX9_lessen_13 (by decide) (fun cn => ?_) (fun cn => ?_)
    · have hf := (if_pos cn).symm.trans hf
      refine lv_iconst (v := (-1 : Int32)) hx hb dX9_lessen_37 (by decide) ?_
      exact pg_iret C hr hH hf dX9_lessen_38
    · have hf := (if_neg cn).symm.trans hf
      refine lv_iload_n hx hb dX9_lessen_16 rfl (lv_at hl 2 rfl) ?_
      refine lv_bipush (v := (90 : Int32)) hx hb dX9_lessen_17 (by decide) ?_
      refine lv_icmp_gt (tgt := 37) hx hb dX9_lessen_19 (by decide) (fun cn => ?_) (fun cn => ?_)
      · have hf := (if_pos cn).symm.trans hf
        refine lv_iconst (v := (-1 : Int32)) hx hb dX9_lessen_37 (by decide) ?_
        exact pg_iret C hr hH hf dX9_lessen_38
      · have hf := (if_neg cn).symm.trans hf
        refine lv_aload_n hx hb dX9_lessen_22 rfl (lv_at hl 0 rfl) ?_
        refine pg_gR C hH fl_X9_19 hf dX9_lessen_23 (fun v23 hf => ?_)
        refine pg_gR C hH fl_X9_130 hf dX9_lessen_26 (fun v26 hf => ?_)
        refine lv_iload_n hx hb dX9_lessen_29 rfl (lv_at hl 1 rfl) ?_
        refine pg_aR C hH (Or.inr rfl) hf dX9_lessen_30 (fun v30 hf => ?_)
        refine lv_iconst (v := (1 : Int32)) hx hb dX9_lessen_31 (by decide) ?_
        refine pg_aI C hH hf dX9_lessen_32 (fun v32 hf => ?_)
        refine lv_iload_n hx hb dX9_lessen_33 rfl (lv_at hl 2 rfl) ?_
        refine lv_icmp_ne (tgt := 39) hx hb dX9_lessen_34 (by decide) (fun cn => ?_) (fun cn => ?_)
        · have hf := (if_neg cn).symm.trans hf
          refine lv_aload_n hx hb dX9_lessen_39 rfl (lv_at hl 0 rfl) ?_
          refine pg_gR C hH fl_X9_19 hf dX9_lessen_40 (fun v40 hf => ?_)
          refine pg_gR C hH fl_X9_130 hf dX9_lessen_43 (fun v43 hf => ?_)
          refine lv_iload_n hx hb dX9_lessen_46 rfl (lv_at hl 1 rfl) ?_
          refine pg_aR C hH (Or.inr rfl) hf dX9_lessen_47 (fun v47 hf => ?_)
          refine lv_iconst (v := (1 : Int32)) hx hb dX9_lessen_48 (by decide) ?_
          refine pg_aI C hH hf dX9_lessen_49 (fun v49 hf => ?_)
          refine lv_istore_n (lv' := [(3, .int v49), (0, .ref (gB g + a0)), (1, .int x1), (2, .int x2)]) hx hb dX9_lessen_50 rfl hl (by decide) rfl (fun ls hl => ?_)
          refine lv_aload_n hx hb dX9_lessen_51 rfl (lv_at hl 1 rfl) ?_
          refine pg_gR C hH fl_X9_19 hf dX9_lessen_52 (fun v52 hf => ?_)
          refine pg_gR C hH fl_X9_130 hf dX9_lessen_55 (fun v55 hf => ?_)
          refine lv_iload_n hx hb dX9_lessen_58 rfl (lv_at hl 2 rfl) ?_
          refine pg_aR C hH (Or.inr rfl) hf dX9_lessen_59 (fun v59 hf => ?_)
          refine lv_iconst (v := (1 : Int32)) hx hb dX9_lessen_60 (by decide) ?_
          refine lv_iload_n hx hb dX9_lessen_61 rfl (lv_at hl 3 rfl) ?_
          refine pg_sI C hH hf dX9_lessen_62 (fun H locs h62 hH hf => ?_)
          refine lv_aload_n hx hb dX9_lessen_63 rfl (lv_at hl 1 rfl) ?_
          refine pg_gR C hH fl_X9_67 hf dX9_lessen_64 (fun v64 hf => ?_)
          refine lv_bipush (v := (7 : Int32)) hx hb dX9_lessen_67 (by decide) ?_
          refine lv_iload_n hx hb dX9_lessen_69 rfl (lv_at hl 2 rfl) ?_
          refine lv_iconst (v := (0 : Int32)) hx hb dX9_lessen_70 (by decide) ?_
          refine lv_iload_n hx hb dX9_lessen_71 rfl (lv_at hl 0 rfl) ?_
          refine pg_Vv (As := [.int (7 : Int32), .int x1, .int (0 : Int32), .int v49]) C hH mi_X0_add vl_X9_228 (q := (RX0, TX0, 3)) (ci := 0) rfl rfl hf (fun _ e1 => (oO_sp e1).1) (fun _ e1 => c_X0_add e1) rfl rfl hl.1 (Nat.le_of_ble_eq_true rfl) ⟨Nat.le_of_ble_eq_true rfl, Nat.le_of_ble_eq_true rfl⟩ ⟨Nat.zero_le _, Nat.zero_le _⟩ dX9_lessen_72 (fun H locs h72 hH hf => ?_)
          refine lv_iload_n hx hb dX9_lessen_75 rfl (lv_at hl 0 rfl) ?_
          exact pg_iret C hr hH hf dX9_lessen_76
        · have hf := (if_pos cn).symm.trans hf
          refine lv_iconst (v := (-1 : Int32)) hx hb dX9_lessen_37 (by decide) ?_
          exact pg_iret C hr hH hf dX9_lessen_38
set_option maxHeartbeats 4000000 in
set_option maxRecDepth 100000 in
theorem c_X9_undo {l : Launch} {g : GD} {h : PH} {a0 : Nat} {r : Int32} {h' : PH} (hf : mX9_undo h a0 = some (r, h')) : Met l yX9_undo (Cond.code yX9_undo cX9_undo 1 (some .int) :: TB) (rmD 3 0 0) (PcH g [.ref (gB g + a0)] h) (QcI g r h') 0 0 (aB g) := by
  refine Met.ofW (cc := cX9_undo) (maxL := 1) (ret := some .int) (by decide) rfl ?_
  intro p e s m args below meth c s₁ B hml hv
  obtain ⟨rfl, hH0, hkk0⟩ := hv
  have C : CT g RX9 cX9_undo 1 (Cond.code yX9_undo cX9_undo 1 (some .int) :: TB) p s m _ meth c := pg_ct (Tw := []) B hml hH0 hkk0
  have hr := B.returns
  have hH : HS g s s.heap [] h := ⟨hH0, va_S.rf⟩
  have hl := lv_entry ([.ref (gB g + a0)]) (n := 1) (Nat.le_of_ble_eq_true rfl)
  rw [lg_entry_eq]
  generalize (lg_sl ([.ref (gB g + a0)]) ++ List.replicate (1 - (lg_sl ([.ref (gB g + a0)])).length) Slot.unset).toArray = ls at hl ⊢
  have hl : lv_has ls 1 [(0, .ref (gB g + a0))] := hl
  show W p l e (rmD 3 0 0) _ _ _ _ _ _ _ _ _ _ _ _
  unfold mX9_undo at hf
  obtain ⟨hO, hf⟩ := oO_sp hf
  obtain ⟨⟨hx, hb, hml, hown, hts⟩, htb, hlk, hkk, hbs⟩ := id C
  refine lv_aload_n hx hb dX9_undo_0 rfl (lv_at hl 0 rfl) ?_
  refine pg_gR C hH fl_X9_67 hf dX9_undo_1 (fun v1 hf => ?_)
  refine pg_gI C hH fl_X9_99 hf dX9_undo_4 (fun v4 hf => ?_)
  refine lv_if_ne (tgt := 12) hx hb dX9_undo_7 (by decide) (fun cn => ?_) (fun cn => ?_)
  · have hf := (if_neg cn).symm.trans hf
    refine lv_aload_n hx hb dX9_undo_12 rfl (lv_at hl 0 rfl) ?_
    refine pg_gR C hH fl_X9_67 hf dX9_undo_13 (fun v13 hf => ?_)
    refine lv_aload_n hx hb dX9_undo_16 rfl (lv_at hl 0 rfl) ?_
    refine pg_gR C hH fl_X9_19 hf dX9_undo_17 (fun v17 hf => ?_)
    refine pg_Vv (As := [.ref (gB g + v17)]) C hH mi_X0_takeBack vl_X9_244 (q := (RX0, TX0, 3)) (ci := 0) rfl rfl hf (fun _ e1 => (oO_sp e1).1) (fun _ e1 => c_X0_takeBack e1) rfl rfl hl.1 (Nat.le_of_ble_eq_true rfl) ⟨Nat.le_of_ble_eq_true rfl, Nat.le_of_ble_eq_true rfl⟩ ⟨Nat.zero_le _, Nat.zero_le _⟩ dX9_undo_20 (fun H locs h20 hH hf => ?_)
    refine lv_aload_n hx hb dX9_undo_23 rfl (lv_at hl 0 rfl) ?_
    refine pg_gR C hH fl_X9_67 hf dX9_undo_24 (fun v24 hf => ?_)
    refine pg_gI C hH fl_X9_99 hf dX9_undo_27 (fun v27 hf => ?_)
    exact pg_iret C hr hH hf dX9_undo_30
  · have hf := (if_pos cn).symm.trans hf
    refine lv_iconst (v := (-1 : Int32)) hx hb dX9_undo_10 (by decide) ?_
    exact pg_iret C hr hH hf dX9_undo_11
set_option maxHeartbeats 4000000 in
set_option maxRecDepth 100000 in
theorem wX9_keep_b26 {r : Int32} {h' : PH} (C : CT g RX9 cX9_keep 3 (Cond.code yX9_keep cX9_keep 3 (some .boolean) :: TB) p s m args meth c) (hr : meth.sig.returnType = some .boolean) {h : PH} {a0 : Nat} {x1 : Int32} {x2 : Int32} {H : Heap} {locs : List Loc} {ls : Array Slot} (hH : HS g s H locs h) (hf : mX9_keep_b26 h a0 x1 x2 = some (r, h')) (hl : lv_has ls 3 [(0, .ref (gB g + a0)), (1, .int x1), (2, .int x2)]) : W p l e (rmD 3 0 0) s m args below meth c H locs 0 0 (MQ below (QcI g r h') args s 0 0 (aB g)) (F0 m 26 ls []) := by
  obtain ⟨⟨hx, hb, hml, hown, hts⟩, htb, hlk, hkk, hbs⟩ := id C
  unfold mX9_keep_b26 at hf
  refine lv_iload_n hx hb dX9_keep_26 rfl (lv_at hl 2 rfl) ?_
  refine lv_if_eq (tgt := 53) hx hb dX9_keep_27 (by decide) (fun cn => ?_) (fun cn => ?_)
  · have hf := (if_pos cn).symm.trans hf
    refine lv_aload_n hx hb dX9_keep_53 rfl (lv_at hl 0 rfl) ?_
    refine pg_gR C hH fl_X9_26 hf dX9_keep_54 (fun v54 hf => ?_)
    refine lv_iload_n hx hb dX9_keep_57 rfl (lv_at hl 1 rfl) ?_
    refine pg_aR C hH (Or.inl rfl) hf dX9_keep_58 (fun v58 hf => ?_)
    refine lv_aload_n hx hb dX9_keep_59 rfl (lv_at hl 0 rfl) ?_
    refine pg_gR C hH fl_X9_19 hf dX9_keep_60 (fun v60 hf => ?_)
    refine pg_Vv (As := [.ref (gB g + v60)]) C hH mi_X8_take vl_X9_90 (q := (RX8, TX8, 8)) (ci := 8) rfl rfl hf (fun _ e1 => (oO_sp e1).1) (fun _ e1 => c_X8_take e1) rfl rfl hl.1 (Nat.le_of_ble_eq_true rfl) ⟨Nat.le_of_ble_eq_true rfl, Nat.le_of_ble_eq_true rfl⟩ ⟨Nat.zero_le _, Nat.zero_le _⟩ dX9_keep_63 (fun H locs h63 hH hf => ?_)
    refine lv_aload_n hx hb dX9_keep_66 rfl (lv_at hl 0 rfl) ?_
    refine lv_dup hx hb dX9_keep_67 rfl ?_
    refine pg_gI C hH fl_X9_96 hf dX9_keep_68 (fun v68 hf => ?_)
    refine lv_iconst (v := (1 : Int32)) hx hb dX9_keep_71 (by decide) ?_
    refine lv_iload_n hx hb dX9_keep_72 rfl (lv_at hl 1 rfl) ?_
    refine lv_ishl hx hb dX9_keep_73 ?_
    refine lv_ior hx hb dX9_keep_74 ?_
    refine pg_pI C hH fl_X9_96 fm_9_10 hf dX9_keep_75 (fun H locs h75 hH hf => ?_)
    refine lv_iconst (v := (1 : Int32)) hx hb dX9_keep_78 (by decide) ?_
    exact pg_zret C hr hH hf dX9_keep_79
  · have hf := (if_neg cn).symm.trans hf
    refine lv_aload_n hx hb dX9_keep_30 rfl (lv_at hl 0 rfl) ?_
    refine pg_gR C hH fl_X9_19 hf dX9_keep_31 (fun v31 hf => ?_)
    refine lv_aload_n hx hb dX9_keep_34 rfl (lv_at hl 0 rfl) ?_
    refine pg_gR C hH fl_X9_26 hf dX9_keep_35 (fun v35 hf => ?_)
    refine lv_iload_n hx hb dX9_keep_38 rfl (lv_at hl 1 rfl) ?_
    refine pg_aR C hH (Or.inl rfl) hf dX9_keep_39 (fun v39 hf => ?_)
    refine pg_Vv (As := [.ref (gB g + v39)]) C hH mi_X8_take vl_X9_90 (q := (RX8, TX8, 8)) (ci := 8) rfl rfl hf (fun _ e1 => (oO_sp e1).1) (fun _ e1 => c_X8_take e1) rfl rfl hl.1 (Nat.le_of_ble_eq_true rfl) ⟨Nat.le_of_ble_eq_true rfl, Nat.le_of_ble_eq_true rfl⟩ ⟨Nat.zero_le _, Nat.zero_le _⟩ dX9_keep_40 (fun H locs h40 hH hf => ?_)
    refine lv_aload_n hx hb dX9_keep_43 rfl (lv_at hl 0 rfl) ?_
    refine pg_gR C hH fl_X9_67 hf dX9_keep_44 (fun v44 hf => ?_)
    refine pg_Vv (As := []) C hH mi_X0_clear vl_X9_93 (q := (RX0, TX0, 3)) (ci := 0) rfl rfl hf (fun _ e1 => (oO_sp e1).1) (fun _ e1 => c_X0_clear e1) rfl rfl hl.1 (Nat.le_of_ble_eq_true rfl) ⟨Nat.le_of_ble_eq_true rfl, Nat.le_of_ble_eq_true rfl⟩ ⟨Nat.zero_le _, Nat.zero_le _⟩ dX9_keep_47 (fun H locs h47 hH hf => ?_)
    refine lv_goto (tgt := 78) hx hb dX9_keep_50 (by decide) ?_
    refine lv_iconst (v := (1 : Int32)) hx hb dX9_keep_78 (by decide) ?_
    exact pg_zret C hr hH hf dX9_keep_79
set_option maxHeartbeats 4000000 in
set_option maxRecDepth 100000 in
theorem c_X9_keep {l : Launch} {g : GD} {h : PH} {a0 : Nat} {x1 : Int32} {x2 : Int32} {r : Int32} {h' : PH} (hf : mX9_keep h a0 x1 x2 = some (r, h')) : Met l yX9_keep (Cond.code yX9_keep cX9_keep 3 (some .boolean) :: TB) (rmD 3 0 0) (PcH g [.ref (gB g + a0), .int x1, .int x2] h) (QcI g r h') 0 0 (aB g) := by
  refine Met.ofW (cc := cX9_keep) (maxL := 3) (ret := some .boolean) (by decide) rfl ?_
  intro p e s m args below meth c s₁ B hml hv
  obtain ⟨rfl, hH0, hkk0⟩ := hv
  have C : CT g RX9 cX9_keep 3 (Cond.code yX9_keep cX9_keep 3 (some .boolean) :: TB) p s m _ meth c := pg_ct (Tw := []) B hml hH0 hkk0
  have hr := B.returns
  have hH : HS g s s.heap [] h := ⟨hH0, va_S.rf⟩
  have hl := lv_entry ([.ref (gB g + a0), .int x1, .int x2]) (n := 3) (Nat.le_of_ble_eq_true rfl)
  rw [lg_entry_eq]
  generalize (lg_sl ([.ref (gB g + a0), .int x1, .int x2]) ++ List.replicate (3 - (lg_sl ([.ref (gB g + a0), .int x1, .int x2])).length) Slot.unset).toArray = ls at hl ⊢
  have hl : lv_has ls 3 [(0, .ref (gB g + a0)), (1, .int x1), (2, .int x2)] := hl
  show W p l e (rmD 3 0 0) _ _ _ _ _ _ _ _ _ _ _ _
  unfold mX9_keep at hf
  obtain ⟨hO, hf⟩ := oO_sp hf
  obtain ⟨⟨hx, hb, hml, hown, hts⟩, htb, hlk, hkk, hbs⟩ := id C
  refine lv_iload_n hx hb dX9_keep_0 rfl (lv_at hl 1 rfl) ?_
  refine lv_if_lt (tgt := 24) hx hb dX9_keep_1 (by decide) (fun cn => ?_) (fun cn => ?_)
  · have hf := (if_pos cn).symm.trans hf
    refine lv_iconst (v := (0 : Int32)) hx hb dX9_keep_24 (by decide) ?_
    exact pg_zret C hr hH hf dX9_keep_25
  · have hf := (if_neg cn).symm.trans hf
    refine lv_iload_n hx hb dX9_keep_4 rfl (lv_at hl 1 rfl) ?_
    refine lv_iconst (v := (2 : Int32)) hx hb dX9_keep_5 (by decide) ?_
    refine lv_icmp_ge (tgt := 24) hx hb dX9_keep_6 (by decide) (fun cn => ?_) (fun cn => ?_)
    · have hf := (if_pos cn).symm.trans hf
      refine lv_iconst (v := (0 : Int32)) hx hb dX9_keep_24 (by decide) ?_
      exact pg_zret C hr hH hf dX9_keep_25
    · have hf := (if_neg cn).symm.trans hf
      refine lv_iload_n hx hb dX9_keep_9 rfl (lv_at hl 2 rfl) ?_
      refine lv_if_eq (tgt := 26) hx hb dX9_keep_10 (by decide) (fun cn => ?_) (fun cn => ?_)
      · have hf := (if_pos cn).symm.trans hf
        exact wX9_keep_b26 C hr hH hf (lv_sub hl [0, 1, 2] rfl)
      · have hf := (if_neg cn).symm.trans hf
        refine lv_aload_n hx hb dX9_keep_13 rfl (lv_at hl 0 rfl) ?_
        refine pg_gI C hH fl_X9_96 hf dX9_keep_14 (fun v14 hf => ?_)
        refine lv_iload_n hx hb dX9_keep_17 rfl (lv_at hl 1 rfl) ?_
        refine lv_ishr hx hb dX9_keep_18 ?_
        refine lv_iconst (v := (1 : Int32)) hx hb dX9_keep_19 (by decide) ?_
        refine lv_iand hx hb dX9_keep_20 ?_
        refine lv_if_ne (tgt := 26) hx hb dX9_keep_21 (by decide) (fun cn => ?_) (fun cn => ?_)
        · have hf := (if_neg cn).symm.trans hf
          exact wX9_keep_b26 C hr hH hf (lv_sub hl [0, 1, 2] rfl)
        · have hf := (if_pos cn).symm.trans hf
          refine lv_iconst (v := (0 : Int32)) hx hb dX9_keep_24 (by decide) ?_
          exact pg_zret C hr hH hf dX9_keep_25
set_option maxHeartbeats 4000000 in
set_option maxRecDepth 100000 in
theorem c_X10_thrown {l : Launch} {g : GD} {h : PH} {a0 : Nat} {r : Int32} {h' : PH} (hf : mX10_thrown h a0 = some (r, h')) : Met l yX10_thrown (Cond.code yX10_thrown cX10_thrown 1 (some .int) :: TB) (rmD 0 0 0) (PcH g [.ref (gB g + a0)] h) (QcI g r h') 0 0 (aB g) := by
  refine Met.ofW (cc := cX10_thrown) (maxL := 1) (ret := some .int) (by decide) rfl ?_
  intro p e s m args below meth c s₁ B hml hv
  obtain ⟨rfl, hH0, hkk0⟩ := hv
  have C : CT g RX10 cX10_thrown 1 (Cond.code yX10_thrown cX10_thrown 1 (some .int) :: TB) p s m _ meth c := pg_ct (Tw := []) B hml hH0 hkk0
  have hr := B.returns
  have hH : HS g s s.heap [] h := ⟨hH0, va_S.rf⟩
  have hl := lv_entry ([.ref (gB g + a0)]) (n := 1) (Nat.le_of_ble_eq_true rfl)
  rw [lg_entry_eq]
  generalize (lg_sl ([.ref (gB g + a0)]) ++ List.replicate (1 - (lg_sl ([.ref (gB g + a0)])).length) Slot.unset).toArray = ls at hl ⊢
  have hl : lv_has ls 1 [(0, .ref (gB g + a0))] := hl
  show W p l e (rmD 0 0 0) _ _ _ _ _ _ _ _ _ _ _ _
  unfold mX10_thrown at hf
  obtain ⟨hO, hf⟩ := oO_sp hf
  obtain ⟨⟨hx, hb, hml, hown, hts⟩, htb, hlk, hkk, hbs⟩ := id C
  refine lv_aload_n hx hb dX10_thrown_0 rfl (lv_at hl 0 rfl) ?_
  refine pg_gI C hH fl_X10_1 hf dX10_thrown_1 (fun v1 hf => ?_)
  exact pg_iret C hr hH hf dX10_thrown_4
set_option maxHeartbeats 4000000 in
set_option maxRecDepth 100000 in
theorem c_X10_within {l : Launch} {g : GD} {h : PH} {x0 : Int64} {x2 : Int64} {x4 : Int64} {r : Int32} {h' : PH} (hf : mX10_within h x0 x2 x4 = some (r, h')) : Met l yX10_within (Cond.code yX10_within cX10_within 6 (some .boolean) :: TB) (rmD 0 0 0) (PcH g [.long x0, .long x2, .long x4] h) (QcI g r h') 0 0 (aB g) := by
  refine Met.ofW (cc := cX10_within) (maxL := 6) (ret := some .boolean) (by decide) rfl ?_
  intro p e s m args below meth c s₁ B hml hv
  obtain ⟨rfl, hH0, hkk0⟩ := hv
  have C : CT g RX10 cX10_within 6 (Cond.code yX10_within cX10_within 6 (some .boolean) :: TB) p s m _ meth c := pg_ct (Tw := []) B hml hH0 hkk0
  have hr := B.returns
  have hH : HS g s s.heap [] h := ⟨hH0, va_S.rf⟩
  have hl := lv_entry ([.long x0, .long x2, .long x4]) (n := 6) (Nat.le_of_ble_eq_true rfl)
  rw [lg_entry_eq]
  generalize (lg_sl ([.long x0, .long x2, .long x4]) ++ List.replicate (6 - (lg_sl ([.long x0, .long x2, .long x4])).length) Slot.unset).toArray = ls at hl ⊢
  have hl : lv_has ls 6 [(0, .long x0), (2, .long x2), (4, .long x4)] := hl
  show W p l e (rmD 0 0 0) _ _ _ _ _ _ _ _ _ _ _ _
  unfold mX10_within at hf
  obtain ⟨⟨hx, hb, hml, hown, hts⟩, htb, hlk, hkk, hbs⟩ := id C
  refine lv_lload_n hx hb dX10_within_0 rfl (lv_at hl 0 rfl) ?_
  refine lv_lload_n hx hb dX10_within_1 rfl (lv_at hl 1 rfl) ?_
  refine W.lcmp hx hb dX10_within_2 ?_
  refine lv_if_lt (tgt := 17) hx hb dX10_within_3 (by decide) (fun cn => ?_) (fun cn => ?_)
  · have hf := (if_pos ((lg_cmp_lt _ _).mp cn)).symm.trans hf
    refine lv_iconst (v := (0 : Int32)) hx hb dX10_within_17 (by decide) ?_
    exact pg_zret C hr hH hf dX10_within_18
  · have hf := (if_neg (fun z => cn ((lg_cmp_lt _ _).mpr z))).symm.trans hf
    refine lv_lload_n hx hb dX10_within_6 rfl (lv_at hl 0 rfl) ?_
    refine lv_lload hx hb dX10_within_7 (lv_at hl 2 rfl) ?_
    refine W.lcmp hx hb dX10_within_9 ?_
    refine lv_if_gt (tgt := 17) hx hb dX10_within_10 (by decide) (fun cn => ?_) (fun cn => ?_)
    · have hf := (if_pos ((lg_cmp_gt _ _).mp cn)).symm.trans hf
      refine lv_iconst (v := (0 : Int32)) hx hb dX10_within_17 (by decide) ?_
      exact pg_zret C hr hH hf dX10_within_18
    · have hf := (if_neg (fun z => cn ((lg_cmp_gt _ _).mpr z))).symm.trans hf
      refine lv_iconst (v := (1 : Int32)) hx hb dX10_within_13 (by decide) ?_
      refine lv_goto (tgt := 18) hx hb dX10_within_14 (by decide) ?_
      exact pg_zret C hr hH hf dX10_within_18
set_option maxHeartbeats 4000000 in
set_option maxRecDepth 100000 in
theorem c_X10_has {l : Launch} {g : GD} {h : PH} {x0 : Int32} {x1 : Int32} {r : Int32} {h' : PH} (hf : mX10_has h x0 x1 = some (r, h')) : Met l yX10_has (Cond.code yX10_has cX10_has 2 (some .boolean) :: TB) (rmD 0 0 0) (PcH g [.int x0, .int x1] h) (QcI g r h') 0 0 (aB g) := by
  refine Met.ofW (cc := cX10_has) (maxL := 2) (ret := some .boolean) (by decide) rfl ?_
  intro p e s m args below meth c s₁ B hml hv
  obtain ⟨rfl, hH0, hkk0⟩ := hv
  have C : CT g RX10 cX10_has 2 (Cond.code yX10_has cX10_has 2 (some .boolean) :: TB) p s m _ meth c := pg_ct (Tw := []) B hml hH0 hkk0
  have hr := B.returns
  have hH : HS g s s.heap [] h := ⟨hH0, va_S.rf⟩
  have hl := lv_entry ([.int x0, .int x1]) (n := 2) (Nat.le_of_ble_eq_true rfl)
  rw [lg_entry_eq]
  generalize (lg_sl ([.int x0, .int x1]) ++ List.replicate (2 - (lg_sl ([.int x0, .int x1])).length) Slot.unset).toArray = ls at hl ⊢
  have hl : lv_has ls 2 [(0, .int x0), (1, .int x1)] := hl
  show W p l e (rmD 0 0 0) _ _ _ _ _ _ _ _ _ _ _ _
  unfold mX10_has at hf
  obtain ⟨⟨hx, hb, hml, hown, hts⟩, htb, hlk, hkk, hbs⟩ := id C
  refine lv_iload_n hx hb dX10_has_0 rfl (lv_at hl 0 rfl) ?_
  refine lv_iload_n hx hb dX10_has_1 rfl (lv_at hl 1 rfl) ?_
  refine lv_ishr hx hb dX10_has_2 ?_
  refine lv_iconst (v := (1 : Int32)) hx hb dX10_has_3 (by decide) ?_
  refine lv_iand hx hb dX10_has_4 ?_
  refine lv_iconst (v := (1 : Int32)) hx hb dX10_has_5 (by decide) ?_
  refine lv_icmp_ne (tgt := 13) hx hb dX10_has_6 (by decide) (fun cn => ?_) (fun cn => ?_)
  · have hf := (if_neg cn).symm.trans hf
    refine lv_iconst (v := (0 : Int32)) hx hb dX10_has_13 (by decide) ?_
    exact pg_zret C hr hH hf dX10_has_14
  · have hf := (if_pos cn).symm.trans hf
    refine lv_iconst (v := (1 : Int32)) hx hb dX10_has_9 (by decide) ?_
    refine lv_goto (tgt := 14) hx hb dX10_has_10 (by decide) ?_
    exact pg_zret C hr hH hf dX10_has_14
set_option maxHeartbeats 4000000 in
set_option maxRecDepth 100000 in
theorem wX10_rules_b2 {r2 : PH → Nat → Int32 → Option (PH)} {h' : PH} (C : CT g RX10 cX10_rules 2 (Cond.code yX10_rules cX10_rules 2 (none) :: TB) p s m args meth c) (hr : meth.sig.returnType = none) (k2 : ∀ {h : PH} {a0 : Nat} {x1 : Int32} {H : Heap} {locs : List Loc} {ls : Array Slot}, HS g s H locs h → r2 h a0 x1 = some h' → lv_has ls 2 [(0, .ref (gB g + a0)), (1, .int x1)] → W p l e (rmD 0 0 0) s m args below meth c H locs 0 0 (MQ below (QcV g h') args s 0 0 (aB g)) (F0 m 2 ls [])) {h : PH} {a0 : Nat} {x1 : Int32} {H : Heap} {locs : List Loc} {ls : Array Slot} (hH : HS g s H locs h) (hf : mX10_rules_b2 r2 h a0 x1 = some h') (hl : lv_has ls 2 [(0, .ref (gB g + a0)), (1, .int x1)]) : W p l e (rmD 0 0 0) s m args below meth c H locs 0 0 (MQ below (QcV g h') args s 0 0 (aB g)) (F0 m 2 ls []) := by
  obtain ⟨⟨hx, hb, hml, hown, hts⟩, htb, hlk, hkk, hbs⟩ := id C
  unfold mX10_rules_b2 at hf
  refine lv_iload_n hx hb dX10_rules_2 rfl (lv_at hl 1 rfl) ?_
  refine lv_sipush (v := (232 : Int32)) hx hb dX10_rules_3 (by decide) ?_
  refine lv_icmp_ge (tgt := 19) hx hb dX10_rules_6 (by decide) (fun cn => ?_) (fun cn => ?_)
  · have hf := (if_pos cn).symm.trans hf
    refine lv_aload_n hx hb dX10_rules_19 rfl (lv_at hl 0 rfl) ?_
    refine lv_bipush (v := (6 : Int32)) hx hb dX10_rules_20 (by decide) ?_
    refine lv_iconst (v := (5 : Int32)) hx hb dX10_rules_22 (by decide) ?_
    refine pg_sI C hH hf dX10_rules_23 (fun H locs h23 hH hf => ?_)
    refine lv_aload_n hx hb dX10_rules_24 rfl (lv_at hl 0 rfl) ?_
    refine lv_bipush (v := (7 : Int32)) hx hb dX10_rules_25 (by decide) ?_
    refine lv_bipush (v := (30 : Int32)) hx hb dX10_rules_27 (by decide) ?_
    refine pg_sI C hH hf dX10_rules_29 (fun H locs h29 hH hf => ?_)
    refine lv_aload_n hx hb dX10_rules_30 rfl (lv_at hl 0 rfl) ?_
    refine lv_bipush (v := (8 : Int32)) hx hb dX10_rules_31 (by decide) ?_
    refine lv_bipush (v := (20 : Int32)) hx hb dX10_rules_33 (by decide) ?_
    refine pg_sI C hH hf dX10_rules_35 (fun H locs h35 hH hf => ?_)
    refine lv_aload_n hx hb dX10_rules_36 rfl (lv_at hl 0 rfl) ?_
    refine lv_bipush (v := (9 : Int32)) hx hb dX10_rules_37 (by decide) ?_
    refine lv_bipush (v := (10 : Int32)) hx hb dX10_rules_39 (by decide) ?_
    refine pg_sI C hH hf dX10_rules_41 (fun H locs h41 hH hf => ?_)
    exact pg_vret C hr hH hf dX10_rules_42
  · have hf := (if_neg cn).symm.trans hf
    refine lv_aload_n hx hb dX10_rules_9 rfl (lv_at hl 0 rfl) ?_
    refine lv_iload_n hx hb dX10_rules_10 rfl (lv_at hl 1 rfl) ?_
    refine lv_iconst (v := (0 : Int32)) hx hb dX10_rules_11 (by decide) ?_
    refine pg_sI C hH hf dX10_rules_12 (fun H locs h12 hH hf => ?_)
    refine lv_iinc (v := (x1 + 1)) (lv' := [(1, .int (x1 + 1)), (0, .ref (gB g + a0))]) hx hb dX10_rules_13 hl (k := 1) rfl rfl (by decide) rfl (fun ls hl => ?_)
    refine lv_goto (tgt := 2) hx hb dX10_rules_16 (by decide) ?_
    exact k2 hH hf (lv_sub hl [1, 0] rfl)
set_option maxHeartbeats 4000000 in
set_option maxRecDepth 100000 in
theorem wX10_rules_L2 {h' : PH} (C : CT g RX10 cX10_rules 2 (Cond.code yX10_rules cX10_rules 2 (none) :: TB) p s m args meth c) (hr : meth.sig.returnType = none) : ∀ (n : Nat) {h : PH} {a0 : Nat} {x1 : Int32} {H : Heap} {locs : List Loc} {ls : Array Slot}, HS g s H locs h → mX10_rules_L2 n h a0 x1 = some h' → lv_has ls 2 [(0, .ref (gB g + a0)), (1, .int x1)] → W p l e (rmD 0 0 0) s m args below meth c H locs 0 0 (MQ below (QcV g h') args s 0 0 (aB g)) (F0 m 2 ls []) := by
  intro n
  induction n with
  | zero =>
    intro h a0 x1 H locs ls hH hf hl
    exact absurd hf (by intro z; cases z)
  | succ n ih =>
    intro h a0 x1 H locs ls hH hf hl
    have hf : mX10_rules_b2 (mX10_rules_L2 n) h a0 x1 = some h' := hf
    exact wX10_rules_b2 C hr (fun a b c => ih a b c) hH hf hl
set_option maxHeartbeats 4000000 in
set_option maxRecDepth 100000 in
theorem c_X10_rules {l : Launch} {g : GD} {h : PH} {a0 : Nat} {h' : PH} (hf : mX10_rules h a0 = some h') : Met l yX10_rules (Cond.code yX10_rules cX10_rules 2 (none) :: TB) (rmD 0 0 0) (PcH g [.ref (gB g + a0)] h) (QcV g h') 0 0 (aB g) := by
  refine Met.ofW (cc := cX10_rules) (maxL := 2) (ret := none) (by decide) rfl ?_
  intro p e s m args below meth c s₁ B hml hv
  obtain ⟨rfl, hH0, hkk0⟩ := hv
  have C : CT g RX10 cX10_rules 2 (Cond.code yX10_rules cX10_rules 2 (none) :: TB) p s m _ meth c := pg_ct (Tw := []) B hml hH0 hkk0
  have hr := B.returns
  have hH : HS g s s.heap [] h := ⟨hH0, va_S.rf⟩
  have hl := lv_entry ([.ref (gB g + a0)]) (n := 2) (Nat.le_of_ble_eq_true rfl)
  rw [lg_entry_eq]
  generalize (lg_sl ([.ref (gB g + a0)]) ++ List.replicate (2 - (lg_sl ([.ref (gB g + a0)])).length) Slot.unset).toArray = ls at hl ⊢
  have hl : lv_has ls 2 [(0, .ref (gB g + a0))] := hl
  show W p l e (rmD 0 0 0) _ _ _ _ _ _ _ _ _ _ _ _
  unfold mX10_rules at hf
  obtain ⟨⟨hx, hb, hml, hown, hts⟩, htb, hlk, hkk, hbs⟩ := id C
  refine lv_iconst (v := (0 : Int32)) hx hb dX10_rules_0 (by decide) ?_
  refine lv_istore_n (lv' := [(1, .int (0 : Int32)), (0, .ref (gB g + a0))]) hx hb dX10_rules_1 rfl hl (by decide) rfl (fun ls hl => ?_)
  exact wX10_rules_L2 C hr FU hH hf (lv_sub hl [1, 0] rfl)
set_option maxHeartbeats 4000000 in
set_option maxRecDepth 100000 in
theorem c_X10_init {l : Launch} {g : GD} {h : PH} {a0 : Nat} {h' : PH} (hf : mX10_init h a0 = some h') : Met l yX10_init (Cond.code yX10_init cX10_init 1 (none) :: TB) (rmD 1 13 5320) (PcH g [.ref (gB g + a0)] h) (QcV g h') 13 5320 (aB g) := by
  refine Met.ofW (cc := cX10_init) (maxL := 1) (ret := none) (by decide) rfl ?_
  intro p e s m args below meth c s₁ B hml hv
  obtain ⟨rfl, hH0, hkk0⟩ := hv
  have C : CT g RX10 cX10_init 1 (Cond.code yX10_init cX10_init 1 (none) :: TB) p s m _ meth c := pg_ct (Tw := []) B hml hH0 hkk0
  have hr := B.returns
  have hH : HS g s s.heap [] h := ⟨hH0, va_S.rf⟩
  have hl := lv_entry ([.ref (gB g + a0)]) (n := 1) (Nat.le_of_ble_eq_true rfl)
  rw [lg_entry_eq]
  generalize (lg_sl ([.ref (gB g + a0)]) ++ List.replicate (1 - (lg_sl ([.ref (gB g + a0)])).length) Slot.unset).toArray = ls at hl ⊢
  have hl : lv_has ls 1 [(0, .ref (gB g + a0))] := hl
  show W p l e (rmD 1 13 5320) _ _ _ _ _ _ _ _ _ _ _ _
  unfold mX10_init at hf
  obtain ⟨hO, hf⟩ := oO_sp hf
  have hin : meth.name = "<init>" := (name_of_methodNamed B.named B.method).1
  obtain ⟨⟨hx, hb, hml, hown, hts⟩, htb, hlk, hkk, hbs⟩ := id C
  refine lv_aload_n hx hb dX10_init_0 rfl (lv_at hl 0 rfl) ?_
  refine pg_obj C oi_X10_7 hl.1 (Nat.le_of_ble_eq_true rfl) (Nat.le_of_ble_eq_true rfl) dX10_init_1 ?_
  refine lv_aload_n hx hb dX10_init_4 rfl (lv_at hl 0 rfl) ?_
  refine lv_sipush (v := (232 : Int32)) hx hb dX10_init_5 (by decide) ?_
  refine pg_newI (N' := 232) C hH ar_I hf (by decide) (by decide) (Nat.le_of_ble_eq_true rfl) (Nat.le_of_ble_eq_true rfl) (Nat.le_of_ble_eq_true rfl) dX10_init_8 (fun H n8_0 h8_0 hH hf => ?_)
  refine W.widen (k := 1) (n := 232) (Nat.le_of_ble_eq_true rfl) (Nat.le_of_ble_eq_true rfl) ?_
  refine pg_pR C hin hH fl_X10_13 ff_10_1 rfl rfl hf dX10_init_10 (fun H locs h10_1 hH hf => ?_)
  refine lv_aload_n hx hb dX10_init_13 rfl (lv_at hl 0 rfl) ?_
  refine lv_sipush (v := (232 : Int32)) hx hb dX10_init_14 (by decide) ?_
  refine pg_newI (N' := 232) C hH ar_I hf (by decide) (by decide) (Nat.le_of_ble_eq_true rfl) (Nat.le_of_ble_eq_true rfl) (Nat.le_of_ble_eq_true rfl) dX10_init_17 (fun H n17_2 h17_2 hH hf => ?_)
  refine W.widen (k := 2) (n := 464) (Nat.le_of_ble_eq_true rfl) (Nat.le_of_ble_eq_true rfl) ?_
  refine pg_pR C hin hH fl_X10_17 ff_10_2 rfl rfl hf dX10_init_19 (fun H locs h19_3 hH hf => ?_)
  refine lv_aload_n hx hb dX10_init_22 rfl (lv_at hl 0 rfl) ?_
  refine lv_sipush (v := (2784 : Int32)) hx hb dX10_init_23 (by decide) ?_
  refine pg_newI (N' := 2784) C hH ar_I hf (by decide) (by decide) (Nat.le_of_ble_eq_true rfl) (Nat.le_of_ble_eq_true rfl) (Nat.le_of_ble_eq_true rfl) dX10_init_26 (fun H n26_4 h26_4 hH hf => ?_)
  refine W.widen (k := 3) (n := 3248) (Nat.le_of_ble_eq_true rfl) (Nat.le_of_ble_eq_true rfl) ?_
  refine pg_pR C hin hH fl_X10_20 ff_10_3 rfl rfl hf dX10_init_28 (fun H locs h28_5 hH hf => ?_)
  refine lv_aload_n hx hb dX10_init_31 rfl (lv_at hl 0 rfl) ?_
  refine lv_sipush (v := (464 : Int32)) hx hb dX10_init_32 (by decide) ?_
  refine pg_newI (N' := 464) C hH ar_I hf (by decide) (by decide) (Nat.le_of_ble_eq_true rfl) (Nat.le_of_ble_eq_true rfl) (Nat.le_of_ble_eq_true rfl) dX10_init_35 (fun H n35_6 h35_6 hH hf => ?_)
  refine W.widen (k := 4) (n := 3712) (Nat.le_of_ble_eq_true rfl) (Nat.le_of_ble_eq_true rfl) ?_
  refine pg_pR C hin hH fl_X10_23 ff_10_4 rfl rfl hf dX10_init_37 (fun H locs h37_7 hH hf => ?_)
  refine lv_aload_n hx hb dX10_init_40 rfl (lv_at hl 0 rfl) ?_
  refine lv_iconst (v := (2 : Int32)) hx hb dX10_init_41 (by decide) ?_
  refine pg_newZ (N' := 2) C hH ar_Z hf (by decide) (by decide) (Nat.le_of_ble_eq_true rfl) (Nat.le_of_ble_eq_true rfl) (Nat.le_of_ble_eq_true rfl) dX10_init_42 (fun H n42_8 h42_8 hH hf => ?_)
  refine W.widen (k := 5) (n := 3714) (Nat.le_of_ble_eq_true rfl) (Nat.le_of_ble_eq_true rfl) ?_
  refine pg_pR C hin hH fl_X10_26 ff_10_5 rfl rfl hf dX10_init_44 (fun H locs h44_9 hH hf => ?_)
  refine lv_aload_n hx hb dX10_init_47 rfl (lv_at hl 0 rfl) ?_
  refine lv_sipush (v := (900 : Int32)) hx hb dX10_init_48 (by decide) ?_
  refine pg_newB (N' := 900) C hH ar_B hf (by decide) (by decide) (Nat.le_of_ble_eq_true rfl) (Nat.le_of_ble_eq_true rfl) (Nat.le_of_ble_eq_true rfl) dX10_init_51 (fun H n51_10 h51_10 hH hf => ?_)
  refine W.widen (k := 6) (n := 4614) (Nat.le_of_ble_eq_true rfl) (Nat.le_of_ble_eq_true rfl) ?_
  refine pg_pR C hin hH fl_X10_30 ff_10_7 rfl rfl hf dX10_init_53 (fun H locs h53_11 hH hf => ?_)
  refine lv_aload_n hx hb dX10_init_56 rfl (lv_at hl 0 rfl) ?_
  refine lv_bipush (v := (26 : Int32)) hx hb dX10_init_57 (by decide) ?_
  refine pg_newL (N' := 26) C hH ar_L hf (by decide) (by decide) (Nat.le_of_ble_eq_true rfl) (Nat.le_of_ble_eq_true rfl) (Nat.le_of_ble_eq_true rfl) dX10_init_59 (fun H n59_12 h59_12 hH hf => ?_)
  refine W.widen (k := 7) (n := 4640) (Nat.le_of_ble_eq_true rfl) (Nat.le_of_ble_eq_true rfl) ?_
  refine pg_pR C hin hH fl_X10_34 ff_10_17 rfl rfl hf dX10_init_61 (fun H locs h61_13 hH hf => ?_)
  refine lv_aload_n hx hb dX10_init_64 rfl (lv_at hl 0 rfl) ?_
  refine lv_bipush (v := (26 : Int32)) hx hb dX10_init_65 (by decide) ?_
  refine pg_newI (N' := 26) C hH ar_I hf (by decide) (by decide) (Nat.le_of_ble_eq_true rfl) (Nat.le_of_ble_eq_true rfl) (Nat.le_of_ble_eq_true rfl) dX10_init_67 (fun H n67_14 h67_14 hH hf => ?_)
  refine W.widen (k := 8) (n := 4666) (Nat.le_of_ble_eq_true rfl) (Nat.le_of_ble_eq_true rfl) ?_
  refine pg_pR C hin hH fl_X10_38 ff_10_18 rfl rfl hf dX10_init_69 (fun H locs h69_15 hH hf => ?_)
  refine lv_aload_n hx hb dX10_init_72 rfl (lv_at hl 0 rfl) ?_
  refine lv_bipush (v := (26 : Int32)) hx hb dX10_init_73 (by decide) ?_
  refine pg_newI (N' := 26) C hH ar_I hf (by decide) (by decide) (Nat.le_of_ble_eq_true rfl) (Nat.le_of_ble_eq_true rfl) (Nat.le_of_ble_eq_true rfl) dX10_init_75 (fun H n75_16 h75_16 hH hf => ?_)
  refine W.widen (k := 9) (n := 4692) (Nat.le_of_ble_eq_true rfl) (Nat.le_of_ble_eq_true rfl) ?_
  refine pg_pR C hin hH fl_X10_41 ff_10_19 rfl rfl hf dX10_init_77 (fun H locs h77_17 hH hf => ?_)
  refine lv_aload_n hx hb dX10_init_80 rfl (lv_at hl 0 rfl) ?_
  refine lv_bipush (v := (10 : Int32)) hx hb dX10_init_81 (by decide) ?_
  refine pg_newL (N' := 10) C hH ar_L hf (by decide) (by decide) (Nat.le_of_ble_eq_true rfl) (Nat.le_of_ble_eq_true rfl) (Nat.le_of_ble_eq_true rfl) dX10_init_83 (fun H n83_18 h83_18 hH hf => ?_)
  refine W.widen (k := 10) (n := 4702) (Nat.le_of_ble_eq_true rfl) (Nat.le_of_ble_eq_true rfl) ?_
  refine pg_pR C hin hH fl_X10_44 ff_10_21 rfl rfl hf dX10_init_85 (fun H locs h85_19 hH hf => ?_)
  refine lv_aload_n hx hb dX10_init_88 rfl (lv_at hl 0 rfl) ?_
  refine lv_iconst (v := (-1 : Int32)) hx hb dX10_init_89 (by decide) ?_
  refine pg_pI C hH fl_X10_47 fm_10_23 hf dX10_init_90 (fun H locs h90 hH hf => ?_)
  refine lv_aload_n hx hb dX10_init_93 rfl (lv_at hl 0 rfl) ?_
  refine lv_bipush (v := (12 : Int32)) hx hb dX10_init_94 (by decide) ?_
  refine pg_newL (N' := 12) C hH ar_L hf (by decide) (by decide) (Nat.le_of_ble_eq_true rfl) (Nat.le_of_ble_eq_true rfl) (Nat.le_of_ble_eq_true rfl) dX10_init_96 (fun H n96_20 h96_20 hH hf => ?_)
  refine W.widen (k := 11) (n := 4714) (Nat.le_of_ble_eq_true rfl) (Nat.le_of_ble_eq_true rfl) ?_
  refine pg_pR C hin hH fl_X10_50 ff_10_26 rfl rfl hf dX10_init_98 (fun H locs h98_21 hH hf => ?_)
  refine lv_aload_n hx hb dX10_init_101 rfl (lv_at hl 0 rfl) ?_
  refine lv_bipush (v := (6 : Int32)) hx hb dX10_init_102 (by decide) ?_
  refine pg_newI (N' := 6) C hH ar_I hf (by decide) (by decide) (Nat.le_of_ble_eq_true rfl) (Nat.le_of_ble_eq_true rfl) (Nat.le_of_ble_eq_true rfl) dX10_init_104 (fun H n104_22 h104_22 hH hf => ?_)
  refine W.widen (k := 12) (n := 4720) (Nat.le_of_ble_eq_true rfl) (Nat.le_of_ble_eq_true rfl) ?_
  refine pg_pR C hin hH fl_X10_53 ff_10_29 rfl rfl hf dX10_init_106 (fun H locs h106_23 hH hf => ?_)
  refine lv_aload_n hx hb dX10_init_109 rfl (lv_at hl 0 rfl) ?_
  refine lv_sipush (v := (600 : Int32)) hx hb dX10_init_110 (by decide) ?_
  refine pg_newI (N' := 600) C hH ar_I hf (by decide) (by decide) (Nat.le_of_ble_eq_true rfl) (Nat.le_of_ble_eq_true rfl) (Nat.le_of_ble_eq_true rfl) dX10_init_113 (fun H n113_24 h113_24 hH hf => ?_)
  refine W.widen (k := 13) (n := 5320) (Nat.le_of_ble_eq_true rfl) (Nat.le_of_ble_eq_true rfl) ?_
  refine pg_pR C hin hH fl_X10_56 ff_10_32 rfl rfl hf dX10_init_115 (fun H locs h115_25 hH hf => ?_)
  refine lv_aload_n hx hb dX10_init_118 rfl (lv_at hl 0 rfl) ?_
  refine pg_gR C hH fl_X10_13 hf dX10_init_119 (fun v119 hf => ?_)
  refine pg_Sv (As := [.ref (gB g + v119)]) C hH mi_X10_rules sl_X10_59 hf (fun _ e1 => c_X10_rules e1) rfl rfl hl.1 (Nat.le_of_ble_eq_true rfl) ⟨Nat.le_of_ble_eq_true rfl, Nat.le_of_ble_eq_true rfl⟩ ⟨Nat.le_of_ble_eq_true rfl, Nat.le_of_ble_eq_true rfl⟩ dX10_init_122 (fun H locs h122 hH hf => ?_)
  exact pg_vret C hr hH hf dX10_init_125
set_option maxHeartbeats 4000000 in
set_option maxRecDepth 100000 in
theorem wX10_copies_b3 {r3 : PH → Nat → Int32 → Nat → Int32 → Int32 → Option (PH)} {h' : PH} (C : CT g RX10 cX10_copies 5 (Cond.code yX10_copies cX10_copies 5 (none) :: TB) p s m args meth c) (hr : meth.sig.returnType = none) (k3 : ∀ {h : PH} {a0 : Nat} {x1 : Int32} {a2 : Nat} {x3 : Int32} {x4 : Int32} {H : Heap} {locs : List Loc} {ls : Array Slot}, HS g s H locs h → r3 h a0 x1 a2 x3 x4 = some h' → lv_has ls 5 [(0, .ref (gB g + a0)), (1, .int x1), (2, .ref (gB g + a2)), (3, .int x3), (4, .int x4)] → W p l e (rmD 0 0 0) s m args below meth c H locs 0 0 (MQ below (QcV g h') args s 0 0 (aB g)) (F0 m 3 ls [])) {h : PH} {a0 : Nat} {x1 : Int32} {a2 : Nat} {x3 : Int32} {x4 : Int32} {H : Heap} {locs : List Loc} {ls : Array Slot} (hH : HS g s H locs h) (hf : mX10_copies_b3 r3 h a0 x1 a2 x3 x4 = some h') (hl : lv_has ls 5 [(0, .ref (gB g + a0)), (1, .int x1), (2, .ref (gB g + a2)), (3, .int x3), (4, .int x4)]) : W p l e (rmD 0 0 0) s m args below meth c H locs 0 0 (MQ below (QcV g h') args s 0 0 (aB g)) (F0 m 3 ls []) := by
  obtain ⟨⟨hx, hb, hml, hown, hts⟩, htb, hlk, hkk, hbs⟩ := id C
  unfold mX10_copies_b3 at hf
  refine lv_iload hx hb dX10_copies_3 (lv_at hl 4 rfl) ?_
  refine lv_sipush (v := (232 : Int32)) hx hb dX10_copies_5 (by decide) ?_
  refine lv_icmp_ge (tgt := 29) hx hb dX10_copies_8 (by decide) (fun cn => ?_) (fun cn => ?_)
  · have hf := (if_pos cn).symm.trans hf
    exact pg_vret C hr hH hf dX10_copies_29
  · have hf := (if_neg cn).symm.trans hf
    refine lv_aload_n hx hb dX10_copies_11 rfl (lv_at hl 2 rfl) ?_
    refine lv_iload_n hx hb dX10_copies_12 rfl (lv_at hl 3 rfl) ?_
    refine lv_iload hx hb dX10_copies_13 (lv_at hl 4 rfl) ?_
    refine lv_iadd hx hb dX10_copies_15 ?_
    refine lv_aload_n hx hb dX10_copies_16 rfl (lv_at hl 0 rfl) ?_
    refine lv_iload_n hx hb dX10_copies_17 rfl (lv_at hl 1 rfl) ?_
    refine lv_iload hx hb dX10_copies_18 (lv_at hl 4 rfl) ?_
    refine lv_iadd hx hb dX10_copies_20 ?_
    refine pg_aI C hH hf dX10_copies_21 (fun v21 hf => ?_)
    refine pg_sI C hH hf dX10_copies_22 (fun H locs h22 hH hf => ?_)
    refine lv_iinc (v := (x4 + 1)) (lv' := [(4, .int (x4 + 1)), (0, .ref (gB g + a0)), (1, .int x1), (2, .ref (gB g + a2)), (3, .int x3)]) hx hb dX10_copies_23 hl (k := 4) rfl rfl (by decide) rfl (fun ls hl => ?_)
    refine lv_goto (tgt := 3) hx hb dX10_copies_26 (by decide) ?_
    exact k3 hH hf (lv_sub hl [1, 2, 3, 4, 0] rfl)
set_option maxHeartbeats 4000000 in
set_option maxRecDepth 100000 in
theorem wX10_copies_L3 {h' : PH} (C : CT g RX10 cX10_copies 5 (Cond.code yX10_copies cX10_copies 5 (none) :: TB) p s m args meth c) (hr : meth.sig.returnType = none) : ∀ (n : Nat) {h : PH} {a0 : Nat} {x1 : Int32} {a2 : Nat} {x3 : Int32} {x4 : Int32} {H : Heap} {locs : List Loc} {ls : Array Slot}, HS g s H locs h → mX10_copies_L3 n h a0 x1 a2 x3 x4 = some h' → lv_has ls 5 [(0, .ref (gB g + a0)), (1, .int x1), (2, .ref (gB g + a2)), (3, .int x3), (4, .int x4)] → W p l e (rmD 0 0 0) s m args below meth c H locs 0 0 (MQ below (QcV g h') args s 0 0 (aB g)) (F0 m 3 ls []) := by
  intro n
  induction n with
  | zero =>
    intro h a0 x1 a2 x3 x4 H locs ls hH hf hl
    exact absurd hf (by intro z; cases z)
  | succ n ih =>
    intro h a0 x1 a2 x3 x4 H locs ls hH hf hl
    have hf : mX10_copies_b3 (mX10_copies_L3 n) h a0 x1 a2 x3 x4 = some h' := hf
    exact wX10_copies_b3 C hr (fun a b c => ih a b c) hH hf hl
set_option maxHeartbeats 4000000 in
set_option maxRecDepth 100000 in
theorem c_X10_copies {l : Launch} {g : GD} {h : PH} {a0 : Nat} {x1 : Int32} {a2 : Nat} {x3 : Int32} {h' : PH} (hf : mX10_copies h a0 x1 a2 x3 = some h') : Met l yX10_copies (Cond.code yX10_copies cX10_copies 5 (none) :: TB) (rmD 0 0 0) (PcH g [.ref (gB g + a0), .int x1, .ref (gB g + a2), .int x3] h) (QcV g h') 0 0 (aB g) := by
  refine Met.ofW (cc := cX10_copies) (maxL := 5) (ret := none) (by decide) rfl ?_
  intro p e s m args below meth c s₁ B hml hv
  obtain ⟨rfl, hH0, hkk0⟩ := hv
  have C : CT g RX10 cX10_copies 5 (Cond.code yX10_copies cX10_copies 5 (none) :: TB) p s m _ meth c := pg_ct (Tw := []) B hml hH0 hkk0
  have hr := B.returns
  have hH : HS g s s.heap [] h := ⟨hH0, va_S.rf⟩
  have hl := lv_entry ([.ref (gB g + a0), .int x1, .ref (gB g + a2), .int x3]) (n := 5) (Nat.le_of_ble_eq_true rfl)
  rw [lg_entry_eq]
  generalize (lg_sl ([.ref (gB g + a0), .int x1, .ref (gB g + a2), .int x3]) ++ List.replicate (5 - (lg_sl ([.ref (gB g + a0), .int x1, .ref (gB g + a2), .int x3])).length) Slot.unset).toArray = ls at hl ⊢
  have hl : lv_has ls 5 [(0, .ref (gB g + a0)), (1, .int x1), (2, .ref (gB g + a2)), (3, .int x3)] := hl
  show W p l e (rmD 0 0 0) _ _ _ _ _ _ _ _ _ _ _ _
  unfold mX10_copies at hf
  obtain ⟨⟨hx, hb, hml, hown, hts⟩, htb, hlk, hkk, hbs⟩ := id C
  refine lv_iconst (v := (0 : Int32)) hx hb dX10_copies_0 (by decide) ?_
  refine lv_istore (lv' := [(4, .int (0 : Int32)), (0, .ref (gB g + a0)), (1, .int x1), (2, .ref (gB g + a2)), (3, .int x3)]) hx hb dX10_copies_1 hl (by decide) rfl (fun ls hl => ?_)
  exact wX10_copies_L3 C hr FU hH hf (lv_sub hl [1, 2, 3, 4, 0] rfl)
set_option maxHeartbeats 4000000 in
set_option maxRecDepth 100000 in
theorem wX10_puts_b3 {r3 : PH → Nat → Int32 → Int32 → Option (PH)} {h' : PH} (C : CT g RX10 cX10_puts 3 (Cond.code yX10_puts cX10_puts 3 (none) :: TB) p s m args meth c) (hr : meth.sig.returnType = none) (k3 : ∀ {h : PH} {a0 : Nat} {x1 : Int32} {x2 : Int32} {H : Heap} {locs : List Loc} {ls : Array Slot}, HS g s H locs h → r3 h a0 x1 x2 = some h' → lv_has ls 3 [(0, .ref (gB g + a0)), (1, .int x1), (2, .int x2)] → W p l e (rmD 0 0 0) s m args below meth c H locs 0 0 (MQ below (QcV g h') args s 0 0 (aB g)) (F0 m 3 ls [])) {h : PH} {a0 : Nat} {x1 : Int32} {x2 : Int32} {H : Heap} {locs : List Loc} {ls : Array Slot} (hH : HS g s H locs h) (hf : mX10_puts_b3 r3 h a0 x1 x2 = some h') (hl : lv_has ls 3 [(0, .ref (gB g + a0)), (1, .int x1), (2, .int x2)]) : W p l e (rmD 0 0 0) s m args below meth c H locs 0 0 (MQ below (QcV g h') args s 0 0 (aB g)) (F0 m 3 ls []) := by
  obtain ⟨⟨hx, hb, hml, hown, hts⟩, htb, hlk, hkk, hbs⟩ := id C
  unfold mX10_puts_b3 at hf
  refine lv_iload_n hx hb dX10_puts_3 rfl (lv_at hl 2 rfl) ?_
  refine lv_if_lt (tgt := 36) hx hb dX10_puts_4 (by decide) (fun cn => ?_) (fun cn => ?_)
  · have hf := (if_pos cn).symm.trans hf
    exact pg_vret C hr hH hf dX10_puts_36
  · have hf := (if_neg cn).symm.trans hf
    refine lv_aload_n hx hb dX10_puts_7 rfl (lv_at hl 0 rfl) ?_
    refine pg_gR C hH fl_X10_30 hf dX10_puts_8 (fun v8 hf => ?_)
    refine lv_aload_n hx hb dX10_puts_11 rfl (lv_at hl 0 rfl) ?_
    refine pg_gI C hH fl_X10_63 hf dX10_puts_12 (fun v12 hf => ?_)
    refine lv_iload_n hx hb dX10_puts_15 rfl (lv_at hl 1 rfl) ?_
    refine lv_iload_n hx hb dX10_puts_16 rfl (lv_at hl 2 rfl) ?_
    refine lv_ishr hx hb dX10_puts_17 ?_
    refine lv_i2b (v := (Int8.toInt32 (Int32.toInt8 (x1 >>> (x2 &&& 31))))) hx hb dX10_puts_18 rfl ?_
    refine pg_sB C hH hf dX10_puts_19 (fun H locs h19 hH hf => ?_)
    refine lv_aload_n hx hb dX10_puts_20 rfl (lv_at hl 0 rfl) ?_
    refine lv_dup hx hb dX10_puts_21 rfl ?_
    refine pg_gI C hH fl_X10_63 hf dX10_puts_22 (fun v22 hf => ?_)
    refine lv_iconst (v := (1 : Int32)) hx hb dX10_puts_25 (by decide) ?_
    refine lv_iadd hx hb dX10_puts_26 ?_
    refine pg_pI C hH fl_X10_63 fm_10_8 hf dX10_puts_27 (fun H locs h27 hH hf => ?_)
    refine lv_iinc (v := (x2 + (-8))) (lv' := [(2, .int (x2 + (-8))), (0, .ref (gB g + a0)), (1, .int x1)]) hx hb dX10_puts_30 hl (k := 2) rfl rfl (by decide) rfl (fun ls hl => ?_)
    refine lv_goto (tgt := 3) hx hb dX10_puts_33 (by decide) ?_
    exact k3 hH hf (lv_sub hl [1, 2, 0] rfl)
set_option maxHeartbeats 4000000 in
set_option maxRecDepth 100000 in
theorem wX10_puts_L3 {h' : PH} (C : CT g RX10 cX10_puts 3 (Cond.code yX10_puts cX10_puts 3 (none) :: TB) p s m args meth c) (hr : meth.sig.returnType = none) : ∀ (n : Nat) {h : PH} {a0 : Nat} {x1 : Int32} {x2 : Int32} {H : Heap} {locs : List Loc} {ls : Array Slot}, HS g s H locs h → mX10_puts_L3 n h a0 x1 x2 = some h' → lv_has ls 3 [(0, .ref (gB g + a0)), (1, .int x1), (2, .int x2)] → W p l e (rmD 0 0 0) s m args below meth c H locs 0 0 (MQ below (QcV g h') args s 0 0 (aB g)) (F0 m 3 ls []) := by
  intro n
  induction n with
  | zero =>
    intro h a0 x1 x2 H locs ls hH hf hl
    exact absurd hf (by intro z; cases z)
  | succ n ih =>
    intro h a0 x1 x2 H locs ls hH hf hl
    have hf : mX10_puts_b3 (mX10_puts_L3 n) h a0 x1 x2 = some h' := hf
    exact wX10_puts_b3 C hr (fun a b c => ih a b c) hH hf hl
set_option maxHeartbeats 4000000 in
set_option maxRecDepth 100000 in
theorem c_X10_puts {l : Launch} {g : GD} {h : PH} {a0 : Nat} {x1 : Int32} {h' : PH} (hf : mX10_puts h a0 x1 = some h') : Met l yX10_puts (Cond.code yX10_puts cX10_puts 3 (none) :: TB) (rmD 0 0 0) (PcH g [.ref (gB g + a0), .int x1] h) (QcV g h') 0 0 (aB g) := by
  refine Met.ofW (cc := cX10_puts) (maxL := 3) (ret := none) (by decide) rfl ?_
  intro p e s m args below meth c s₁ B hml hv
  obtain ⟨rfl, hH0, hkk0⟩ := hv
  have C : CT g RX10 cX10_puts 3 (Cond.code yX10_puts cX10_puts 3 (none) :: TB) p s m _ meth c := pg_ct (Tw := []) B hml hH0 hkk0
  have hr := B.returns
  have hH : HS g s s.heap [] h := ⟨hH0, va_S.rf⟩
  have hl := lv_entry ([.ref (gB g + a0), .int x1]) (n := 3) (Nat.le_of_ble_eq_true rfl)
  rw [lg_entry_eq]
  generalize (lg_sl ([.ref (gB g + a0), .int x1]) ++ List.replicate (3 - (lg_sl ([.ref (gB g + a0), .int x1])).length) Slot.unset).toArray = ls at hl ⊢
  have hl : lv_has ls 3 [(0, .ref (gB g + a0)), (1, .int x1)] := hl
  show W p l e (rmD 0 0 0) _ _ _ _ _ _ _ _ _ _ _ _
  unfold mX10_puts at hf
  obtain ⟨hO, hf⟩ := oO_sp hf
  obtain ⟨⟨hx, hb, hml, hown, hts⟩, htb, hlk, hkk, hbs⟩ := id C
  refine lv_bipush (v := (24 : Int32)) hx hb dX10_puts_0 (by decide) ?_
  refine lv_istore_n (lv' := [(2, .int (24 : Int32)), (0, .ref (gB g + a0)), (1, .int x1)]) hx hb dX10_puts_2 rfl hl (by decide) rfl (fun ls hl => ?_)
  exact wX10_puts_L3 C hr FU hH hf (lv_sub hl [1, 2, 0] rfl)
set_option maxHeartbeats 4000000 in
set_option maxRecDepth 100000 in
theorem c_X10_feed {l : Launch} {g : GD} {h : PH} {a0 : Nat} {x1 : Int32} {x2 : Int32} {x3 : Int32} {x4 : Int32} {x5 : Int32} {r : Int32} {h' : PH} (hf : mX10_feed h a0 x1 x2 x3 x4 x5 = some (r, h')) : Met l yX10_feed (Cond.code yX10_feed cX10_feed 6 (some .int) :: TB) (rmD 1 0 0) (PcH g [.ref (gB g + a0), .int x1, .int x2, .int x3, .int x4, .int x5] h) (QcI g r h') 0 0 (aB g) := by
  refine Met.ofW (cc := cX10_feed) (maxL := 6) (ret := some .int) (by decide) rfl ?_
  intro p e s m args below meth c s₁ B hml hv
  obtain ⟨rfl, hH0, hkk0⟩ := hv
  have C : CT g RX10 cX10_feed 6 (Cond.code yX10_feed cX10_feed 6 (some .int) :: TB) p s m _ meth c := pg_ct (Tw := []) B hml hH0 hkk0
  have hr := B.returns
  have hH : HS g s s.heap [] h := ⟨hH0, va_S.rf⟩
  have hl := lv_entry ([.ref (gB g + a0), .int x1, .int x2, .int x3, .int x4, .int x5]) (n := 6) (Nat.le_of_ble_eq_true rfl)
  rw [lg_entry_eq]
  generalize (lg_sl ([.ref (gB g + a0), .int x1, .int x2, .int x3, .int x4, .int x5]) ++ List.replicate (6 - (lg_sl ([.ref (gB g + a0), .int x1, .int x2, .int x3, .int x4, .int x5])).length) Slot.unset).toArray = ls at hl ⊢
  have hl : lv_has ls 6 [(0, .ref (gB g + a0)), (1, .int x1), (2, .int x2), (3, .int x3), (4, .int x4), (5, .int x5)] := hl
  show W p l e (rmD 1 0 0) _ _ _ _ _ _ _ _ _ _ _ _
  unfold mX10_feed at hf
  obtain ⟨hO, hf⟩ := oO_sp hf
  obtain ⟨⟨hx, hb, hml, hown, hts⟩, htb, hlk, hkk, hbs⟩ := id C
  refine lv_aload_n hx hb dX10_feed_0 rfl (lv_at hl 0 rfl) ?_
  refine lv_iconst (v := (0 : Int32)) hx hb dX10_feed_1 (by decide) ?_
  refine pg_pI C hH fl_X10_1 fm_10_0 hf dX10_feed_2 (fun H locs h2 hH hf => ?_)
  refine lv_aload_n hx hb dX10_feed_5 rfl (lv_at hl 0 rfl) ?_
  refine pg_gI C hH fl_X10_63 hf dX10_feed_6 (fun v6 hf => ?_)
  refine lv_bipush (v := (20 : Int32)) hx hb dX10_feed_9 (by decide) ?_
  refine lv_iadd hx hb dX10_feed_11 ?_
  refine lv_sipush (v := (900 : Int32)) hx hb dX10_feed_12 (by decide) ?_
  refine lv_icmp_le (tgt := 20) hx hb dX10_feed_15 (by decide) (fun cn => ?_) (fun cn => ?_)
  · have hf := (if_pos cn).symm.trans hf
    refine lv_aload_n hx hb dX10_feed_20 rfl (lv_at hl 0 rfl) ?_
    refine lv_iload_n hx hb dX10_feed_21 rfl (lv_at hl 1 rfl) ?_
    refine pg_Vv (As := [.int x1]) C hH mi_X10_puts vl_X10_66 (q := (RX10, TX10, 34)) (ci := 10) rfl rfl hf (fun _ e1 => (oO_sp e1).1) (fun _ e1 => c_X10_puts e1) rfl rfl hl.1 (Nat.le_of_ble_eq_true rfl) ⟨Nat.le_of_ble_eq_true rfl, Nat.le_of_ble_eq_true rfl⟩ ⟨Nat.zero_le _, Nat.zero_le _⟩ dX10_feed_22 (fun H locs h22 hH hf => ?_)
    refine lv_aload_n hx hb dX10_feed_25 rfl (lv_at hl 0 rfl) ?_
    refine lv_iload_n hx hb dX10_feed_26 rfl (lv_at hl 2 rfl) ?_
    refine pg_Vv (As := [.int x2]) C hH mi_X10_puts vl_X10_66 (q := (RX10, TX10, 34)) (ci := 10) rfl rfl hf (fun _ e1 => (oO_sp e1).1) (fun _ e1 => c_X10_puts e1) rfl rfl hl.1 (Nat.le_of_ble_eq_true rfl) ⟨Nat.le_of_ble_eq_true rfl, Nat.le_of_ble_eq_true rfl⟩ ⟨Nat.zero_le _, Nat.zero_le _⟩ dX10_feed_27 (fun H locs h27 hH hf => ?_)
    refine lv_aload_n hx hb dX10_feed_30 rfl (lv_at hl 0 rfl) ?_
    refine lv_iload_n hx hb dX10_feed_31 rfl (lv_at hl 3 rfl) ?_
    refine pg_Vv (As := [.int x3]) C hH mi_X10_puts vl_X10_66 (q := (RX10, TX10, 34)) (ci := 10) rfl rfl hf (fun _ e1 => (oO_sp e1).1) (fun _ e1 => c_X10_puts e1) rfl rfl hl.1 (Nat.le_of_ble_eq_true rfl) ⟨Nat.le_of_ble_eq_true rfl, Nat.le_of_ble_eq_true rfl⟩ ⟨Nat.zero_le _, Nat.zero_le _⟩ dX10_feed_32 (fun H locs h32 hH hf => ?_)
    refine lv_aload_n hx hb dX10_feed_35 rfl (lv_at hl 0 rfl) ?_
    refine lv_iload hx hb dX10_feed_36 (lv_at hl 4 rfl) ?_
    refine pg_Vv (As := [.int x4]) C hH mi_X10_puts vl_X10_66 (q := (RX10, TX10, 34)) (ci := 10) rfl rfl hf (fun _ e1 => (oO_sp e1).1) (fun _ e1 => c_X10_puts e1) rfl rfl hl.1 (Nat.le_of_ble_eq_true rfl) ⟨Nat.le_of_ble_eq_true rfl, Nat.le_of_ble_eq_true rfl⟩ ⟨Nat.zero_le _, Nat.zero_le _⟩ dX10_feed_38 (fun H locs h38 hH hf => ?_)
    refine lv_aload_n hx hb dX10_feed_41 rfl (lv_at hl 0 rfl) ?_
    refine lv_iload hx hb dX10_feed_42 (lv_at hl 5 rfl) ?_
    refine pg_Vv (As := [.int x5]) C hH mi_X10_puts vl_X10_66 (q := (RX10, TX10, 34)) (ci := 10) rfl rfl hf (fun _ e1 => (oO_sp e1).1) (fun _ e1 => c_X10_puts e1) rfl rfl hl.1 (Nat.le_of_ble_eq_true rfl) ⟨Nat.le_of_ble_eq_true rfl, Nat.le_of_ble_eq_true rfl⟩ ⟨Nat.zero_le _, Nat.zero_le _⟩ dX10_feed_44 (fun H locs h44 hH hf => ?_)
    refine lv_aload_n hx hb dX10_feed_47 rfl (lv_at hl 0 rfl) ?_
    refine pg_gI C hH fl_X10_63 hf dX10_feed_48 (fun v48 hf => ?_)
    exact pg_iret C hr hH hf dX10_feed_51
  · have hf := (if_neg cn).symm.trans hf
    refine lv_iconst (v := (-1 : Int32)) hx hb dX10_feed_18 (by decide) ?_
    exact pg_iret C hr hH hf dX10_feed_19
set_option maxHeartbeats 4000000 in
set_option maxRecDepth 100000 in
theorem c_X10_byteAt {l : Launch} {g : GD} {h : PH} {a0 : Nat} {x1 : Int32} {r : Int32} {h' : PH} (hf : mX10_byteAt h a0 x1 = some (r, h')) : Met l yX10_byteAt (Cond.code yX10_byteAt cX10_byteAt 2 (some .int) :: TB) (rmD 0 0 0) (PcH g [.ref (gB g + a0), .int x1] h) (QcI g r h') 0 0 (aB g) := by
  refine Met.ofW (cc := cX10_byteAt) (maxL := 2) (ret := some .int) (by decide) rfl ?_
  intro p e s m args below meth c s₁ B hml hv
  obtain ⟨rfl, hH0, hkk0⟩ := hv
  have C : CT g RX10 cX10_byteAt 2 (Cond.code yX10_byteAt cX10_byteAt 2 (some .int) :: TB) p s m _ meth c := pg_ct (Tw := []) B hml hH0 hkk0
  have hr := B.returns
  have hH : HS g s s.heap [] h := ⟨hH0, va_S.rf⟩
  have hl := lv_entry ([.ref (gB g + a0), .int x1]) (n := 2) (Nat.le_of_ble_eq_true rfl)
  rw [lg_entry_eq]
  generalize (lg_sl ([.ref (gB g + a0), .int x1]) ++ List.replicate (2 - (lg_sl ([.ref (gB g + a0), .int x1])).length) Slot.unset).toArray = ls at hl ⊢
  have hl : lv_has ls 2 [(0, .ref (gB g + a0)), (1, .int x1)] := hl
  show W p l e (rmD 0 0 0) _ _ _ _ _ _ _ _ _ _ _ _
  unfold mX10_byteAt at hf
  obtain ⟨hO, hf⟩ := oO_sp hf
  obtain ⟨⟨hx, hb, hml, hown, hts⟩, htb, hlk, hkk, hbs⟩ := id C
  refine lv_iload_n hx hb dX10_byteAt_0 rfl (lv_at hl 1 rfl) ?_
  refine lv_aload_n hx hb dX10_byteAt_1 rfl (lv_at hl 0 rfl) ?_
  refine pg_gI C hH fl_X10_70 hf dX10_byteAt_2 (fun v2 hf => ?_)
  refine lv_icmp_ge (tgt := 21) hx hb dX10_byteAt_5 (by decide) (fun cn => ?_) (fun cn => ?_)
  · have hf := (if_pos cn).symm.trans hf
    refine lv_iconst (v := (-1 : Int32)) hx hb dX10_byteAt_21 (by decide) ?_
    exact pg_iret C hr hH hf dX10_byteAt_22
  · have hf := (if_neg cn).symm.trans hf
    refine lv_aload_n hx hb dX10_byteAt_8 rfl (lv_at hl 0 rfl) ?_
    refine pg_gR C hH fl_X10_30 hf dX10_byteAt_9 (fun v9 hf => ?_)
    refine lv_iload_n hx hb dX10_byteAt_12 rfl (lv_at hl 1 rfl) ?_
    refine pg_aB C hH hf dX10_byteAt_13 (fun v13 hf => ?_)
    refine lv_sipush (v := (255 : Int32)) hx hb dX10_byteAt_14 (by decide) ?_
    refine lv_iand hx hb dX10_byteAt_17 ?_
    refine lv_goto (tgt := 22) hx hb dX10_byteAt_18 (by decide) ?_
    exact pg_iret C hr hH hf dX10_byteAt_22
set_option maxHeartbeats 4000000 in
set_option maxRecDepth 100000 in
theorem wX10_go_b26 {r0 : PH → Nat → Option (PH)} {h' : PH} (C : CT g RX10 cX10_go 2 (Cond.code yX10_go cX10_go 2 (none) :: TB) p s m args meth c) (hr : meth.sig.returnType = none) (k0 : ∀ {h : PH} {a0 : Nat} {H : Heap} {locs : List Loc} {ls : Array Slot}, HS g s H locs h → r0 h a0 = some h' → lv_has ls 2 [(0, .ref (gB g + a0))] → W p l e (rmD 1 0 0) s m args below meth c H locs 0 0 (MQ below (QcV g h') args s 0 0 (aB g)) (F0 m 0 ls [])) {h : PH} {a0 : Nat} {H : Heap} {locs : List Loc} {ls : Array Slot} (hH : HS g s H locs h) (hf : mX10_go_b26 r0 h a0 = some h') (hl : lv_has ls 2 [(0, .ref (gB g + a0))]) : W p l e (rmD 1 0 0) s m args below meth c H locs 0 0 (MQ below (QcV g h') args s 0 0 (aB g)) (F0 m 26 ls []) := by
  obtain ⟨⟨hx, hb, hml, hown, hts⟩, htb, hlk, hkk, hbs⟩ := id C
  unfold mX10_go_b26 at hf
  refine lv_aload_n hx hb dX10_go_26 rfl (lv_at hl 0 rfl) ?_
  refine lv_dup hx hb dX10_go_27 rfl ?_
  refine pg_gI C hH fl_X10_73 hf dX10_go_28 (fun v28 hf => ?_)
  refine lv_iconst (v := (1 : Int32)) hx hb dX10_go_31 (by decide) ?_
  refine lv_iadd hx hb dX10_go_32 ?_
  refine pg_pI C hH fl_X10_73 fm_10_11 hf dX10_go_33 (fun H locs h33 hH hf => ?_)
  refine lv_goto (tgt := 0) hx hb dX10_go_36 (by decide) ?_
  exact k0 hH hf (lv_sub hl [0] rfl)
set_option maxHeartbeats 4000000 in
set_option maxRecDepth 100000 in
theorem wX10_go_b157 {r92 : PH → Nat → Option (PH)} {h' : PH} (C : CT g RX10 cX10_go 2 (Cond.code yX10_go cX10_go 2 (none) :: TB) p s m args meth c) (hr : meth.sig.returnType = none) (k92 : ∀ {h : PH} {a0 : Nat} {H : Heap} {locs : List Loc} {ls : Array Slot}, HS g s H locs h → r92 h a0 = some h' → lv_has ls 2 [(0, .ref (gB g + a0))] → W p l e (rmD 1 0 0) s m args below meth c H locs 0 0 (MQ below (QcV g h') args s 0 0 (aB g)) (F0 m 92 ls [])) {h : PH} {a0 : Nat} {s0 : Nat} {s1 : Int64} {H : Heap} {locs : List Loc} {ls : Array Slot} (hH : HS g s H locs h) (hf : mX10_go_b157 r92 h a0 s0 s1 = some h') (hl : lv_has ls 2 [(0, .ref (gB g + a0))]) : W p l e (rmD 1 0 0) s m args below meth c H locs 0 0 (MQ below (QcV g h') args s 0 0 (aB g)) (F0 m 157 ls [.long s1, .ref (gB g + s0)]) := by
  obtain ⟨⟨hx, hb, hml, hown, hts⟩, htb, hlk, hkk, hbs⟩ := id C
  unfold mX10_go_b157 at hf
  refine pg_pL C hH fl_X10_86 fm_10_14 hf dX10_go_157 (fun H locs h157 hH hf => ?_)
  refine lv_aload_n hx hb dX10_go_160 rfl (lv_at hl 0 rfl) ?_
  refine lv_dup hx hb dX10_go_161 rfl ?_
  refine pg_gI C hH fl_X10_73 hf dX10_go_162 (fun v162 hf => ?_)
  refine lv_iconst (v := (1 : Int32)) hx hb dX10_go_165 (by decide) ?_
  refine lv_iadd hx hb dX10_go_166 ?_
  refine pg_pI C hH fl_X10_73 fm_10_11 hf dX10_go_167 (fun H locs h167 hH hf => ?_)
  refine lv_goto (tgt := 92) hx hb dX10_go_170 (by decide) ?_
  exact k92 hH hf (lv_sub hl [0] rfl)
set_option maxHeartbeats 4000000 in
set_option maxRecDepth 100000 in
theorem wX10_go_b193 {h' : PH} (C : CT g RX10 cX10_go 2 (Cond.code yX10_go cX10_go 2 (none) :: TB) p s m args meth c) (hr : meth.sig.returnType = none) {h : PH} {s0 : Nat} {s1 : Int32} {H : Heap} {locs : List Loc} {ls : Array Slot} (hH : HS g s H locs h) (hf : mX10_go_b193 h s0 s1 = some h') (hl : lv_has ls 2 []) : W p l e (rmD 1 0 0) s m args below meth c H locs 0 0 (MQ below (QcV g h') args s 0 0 (aB g)) (F0 m 193 ls [.int s1, .ref (gB g + s0)]) := by
  obtain ⟨⟨hx, hb, hml, hown, hts⟩, htb, hlk, hkk, hbs⟩ := id C
  unfold mX10_go_b193 at hf
  refine pg_pI C hH fl_X10_90 fm_10_12 hf dX10_go_193 (fun H locs h193 hH hf => ?_)
  refine lv_goto (tgt := 340) hx hb dX10_go_196 (by decide) ?_
  exact pg_vret C hr hH hf dX10_go_340
set_option maxHeartbeats 4000000 in
set_option maxRecDepth 100000 in
theorem wX10_go_b92 {r92 : PH → Nat → Option (PH)} {h' : PH} (C : CT g RX10 cX10_go 2 (Cond.code yX10_go cX10_go 2 (none) :: TB) p s m args meth c) (hr : meth.sig.returnType = none) (k92 : ∀ {h : PH} {a0 : Nat} {H : Heap} {locs : List Loc} {ls : Array Slot}, HS g s H locs h → r92 h a0 = some h' → lv_has ls 2 [(0, .ref (gB g + a0))] → W p l e (rmD 1 0 0) s m args below meth c H locs 0 0 (MQ below (QcV g h') args s 0 0 (aB g)) (F0 m 92 ls [])) {h : PH} {a0 : Nat} {H : Heap} {locs : List Loc} {ls : Array Slot} (hH : HS g s H locs h) (hf : mX10_go_b92 r92 h a0 = some h') (hl : lv_has ls 2 [(0, .ref (gB g + a0))]) : W p l e (rmD 1 0 0) s m args below meth c H locs 0 0 (MQ below (QcV g h') args s 0 0 (aB g)) (F0 m 92 ls []) := by
  obtain ⟨⟨hx, hb, hml, hown, hts⟩, htb, hlk, hkk, hbs⟩ := id C
  unfold mX10_go_b92 at hf
  refine lv_aload_n hx hb dX10_go_92 rfl (lv_at hl 0 rfl) ?_
  refine lv_aload_n hx hb dX10_go_93 rfl (lv_at hl 0 rfl) ?_
  refine pg_gI C hH fl_X10_73 hf dX10_go_94 (fun v94 hf => ?_)
  refine pg_Vi (As := [.int v94]) C hH mi_X10_byteAt vl_X10_76 (q := (RX10, TX10, 34)) (ci := 10) rfl rfl hf (fun _ e1 => (oO_sp e1).1) (fun _ _ e1 => c_X10_byteAt e1) rfl rfl hl.1 (Nat.le_of_ble_eq_true rfl) ⟨Nat.le_of_ble_eq_true rfl, Nat.le_of_ble_eq_true rfl⟩ ⟨Nat.zero_le _, Nat.zero_le _⟩ dX10_go_97 (fun H locs v97 h97 hH hf => ?_)
  refine lv_i2l (v := (Int32.toInt64 v97)) hx hb dX10_go_100 rfl ?_
  refine lv_ldc2 (v := (97 : Int64)) hx hb hown (hts _ (htb _ kl_X10_93)) dX10_go_101 ?_
  refine lv_ldc2 (v := (122 : Int64)) hx hb hown (hts _ (htb _ kl_X10_95)) dX10_go_104 ?_
  refine pg_Si (As := [.long (Int32.toInt64 v97), .long (97 : Int64), .long (122 : Int64)]) C hH mi_X10_within sl_X10_97 hf (fun _ _ e1 => c_X10_within e1) rfl rfl hl.1 (Nat.le_of_ble_eq_true rfl) ⟨Nat.le_of_ble_eq_true rfl, Nat.le_of_ble_eq_true rfl⟩ ⟨Nat.zero_le _, Nat.zero_le _⟩ dX10_go_107 (fun H locs v107 h107 hH hf => ?_)
  refine lv_if_eq (tgt := 173) hx hb dX10_go_110 (by decide) (fun cn => ?_) (fun cn => ?_)
  · have hf := (if_pos cn).symm.trans hf
    refine lv_aload_n hx hb dX10_go_173 rfl (lv_at hl 0 rfl) ?_
    refine lv_aload_n hx hb dX10_go_174 rfl (lv_at hl 0 rfl) ?_
    refine pg_gI C hH fl_X10_73 hf dX10_go_175 (fun v175 hf => ?_)
    refine lv_aload_n hx hb dX10_go_178 rfl (lv_at hl 0 rfl) ?_
    refine pg_gI C hH fl_X10_80 hf dX10_go_179 (fun v179 hf => ?_)
    refine lv_isub hx hb dX10_go_182 ?_
    refine lv_bipush (v := (7 : Int32)) hx hb dX10_go_183 (by decide) ?_
    refine lv_icmp_le (tgt := 192) hx hb dX10_go_185 (by decide) (fun cn => ?_) (fun cn => ?_)
    · have hf := (if_pos cn).symm.trans hf
      refine lv_iconst (v := (1 : Int32)) hx hb dX10_go_192 (by decide) ?_
      exact wX10_go_b193 C hr hH hf (lv_sub hl [] rfl)
    · have hf := (if_neg cn).symm.trans hf
      refine lv_iconst (v := (4 : Int32)) hx hb dX10_go_188 (by decide) ?_
      refine lv_goto (tgt := 193) hx hb dX10_go_189 (by decide) ?_
      exact wX10_go_b193 C hr hH hf (lv_sub hl [] rfl)
  · have hf := (if_neg cn).symm.trans hf
    refine lv_aload_n hx hb dX10_go_113 rfl (lv_at hl 0 rfl) ?_
    refine lv_aload_n hx hb dX10_go_114 rfl (lv_at hl 0 rfl) ?_
    refine pg_gI C hH fl_X10_73 hf dX10_go_115 (fun v115 hf => ?_)
    refine lv_aload_n hx hb dX10_go_118 rfl (lv_at hl 0 rfl) ?_
    refine pg_gI C hH fl_X10_80 hf dX10_go_119 (fun v119 hf => ?_)
    refine lv_isub hx hb dX10_go_122 ?_
    refine lv_bipush (v := (7 : Int32)) hx hb dX10_go_123 (by decide) ?_
    refine lv_icmp_ge (tgt := 153) hx hb dX10_go_125 (by decide) (fun cn => ?_) (fun cn => ?_)
    · have hf := (if_pos cn).symm.trans hf
      refine lv_aload_n hx hb dX10_go_153 rfl (lv_at hl 0 rfl) ?_
      refine pg_gL C hH fl_X10_86 hf dX10_go_154 (fun v154 hf => ?_)
      exact wX10_go_b157 C hr k92 hH hf (lv_sub hl [0] rfl)
    · have hf := (if_neg cn).symm.trans hf
      refine lv_ldc2 (v := (32 : Int64)) hx hb hown (hts _ (htb _ kl_X10_101)) dX10_go_128 ?_
      refine lv_aload_n hx hb dX10_go_131 rfl (lv_at hl 0 rfl) ?_
      refine pg_gL C hH fl_X10_86 hf dX10_go_132 (fun v132 hf => ?_)
      refine lv_lmul hx hb dX10_go_135 ?_
      refine lv_aload_n hx hb dX10_go_136 rfl (lv_at hl 0 rfl) ?_
      refine lv_aload_n hx hb dX10_go_137 rfl (lv_at hl 0 rfl) ?_
      refine pg_gI C hH fl_X10_73 hf dX10_go_138 (fun v138 hf => ?_)
      refine pg_Vi (As := [.int v138]) C hH mi_X10_byteAt vl_X10_76 (q := (RX10, TX10, 34)) (ci := 10) rfl rfl hf (fun _ e1 => (oO_sp e1).1) (fun _ _ e1 => c_X10_byteAt e1) rfl rfl hl.1 (Nat.le_of_ble_eq_true rfl) ⟨Nat.le_of_ble_eq_true rfl, Nat.le_of_ble_eq_true rfl⟩ ⟨Nat.zero_le _, Nat.zero_le _⟩ dX10_go_141 (fun H locs v141 h141 hH hf => ?_)
      refine lv_i2l (v := (Int32.toInt64 v141)) hx hb dX10_go_144 rfl ?_
      refine lv_ladd hx hb dX10_go_145 ?_
      refine lv_ldc2 (v := (96 : Int64)) hx hb hown (hts _ (htb _ kl_X10_103)) dX10_go_146 ?_
      refine lv_lsub hx hb dX10_go_149 ?_
      refine lv_goto (tgt := 157) hx hb dX10_go_150 (by decide) ?_
      exact wX10_go_b157 C hr k92 hH hf (lv_sub hl [0] rfl)
set_option maxHeartbeats 4000000 in
set_option maxRecDepth 100000 in
theorem wX10_go_L92 {h' : PH} (C : CT g RX10 cX10_go 2 (Cond.code yX10_go cX10_go 2 (none) :: TB) p s m args meth c) (hr : meth.sig.returnType = none) : ∀ (n : Nat) {h : PH} {a0 : Nat} {H : Heap} {locs : List Loc} {ls : Array Slot}, HS g s H locs h → mX10_go_L92 n h a0 = some h' → lv_has ls 2 [(0, .ref (gB g + a0))] → W p l e (rmD 1 0 0) s m args below meth c H locs 0 0 (MQ below (QcV g h') args s 0 0 (aB g)) (F0 m 92 ls []) := by
  intro n
  induction n with
  | zero =>
    intro h a0 H locs ls hH hf hl
    exact absurd hf (by intro z; cases z)
  | succ n ih =>
    intro h a0 H locs ls hH hf hl
    have hf : mX10_go_b92 (mX10_go_L92 n) h a0 = some h' := hf
    exact wX10_go_b92 C hr (fun a b c => ih a b c) hH hf hl
set_option maxHeartbeats 4000000 in
set_option maxRecDepth 100000 in
theorem wX10_go_b274 {r213 : PH → Nat → Option (PH)} {h' : PH} (C : CT g RX10 cX10_go 2 (Cond.code yX10_go cX10_go 2 (none) :: TB) p s m args meth c) (hr : meth.sig.returnType = none) (k213 : ∀ {h : PH} {a0 : Nat} {H : Heap} {locs : List Loc} {ls : Array Slot}, HS g s H locs h → r213 h a0 = some h' → lv_has ls 2 [(0, .ref (gB g + a0))] → W p l e (rmD 1 0 0) s m args below meth c H locs 0 0 (MQ below (QcV g h') args s 0 0 (aB g)) (F0 m 213 ls [])) {h : PH} {a0 : Nat} {s0 : Nat} {s1 : Int32} {H : Heap} {locs : List Loc} {ls : Array Slot} (hH : HS g s H locs h) (hf : mX10_go_b274 r213 h a0 s0 s1 = some h') (hl : lv_has ls 2 [(0, .ref (gB g + a0))]) : W p l e (rmD 1 0 0) s m args below meth c H locs 0 0 (MQ below (QcV g h') args s 0 0 (aB g)) (F0 m 274 ls [.int s1, .ref (gB g + s0)]) := by
  obtain ⟨⟨hx, hb, hml, hown, hts⟩, htb, hlk, hkk, hbs⟩ := id C
  unfold mX10_go_b274 at hf
  refine pg_pI C hH fl_X10_83 fm_10_13 hf dX10_go_274 (fun H locs h274 hH hf => ?_)
  refine lv_aload_n hx hb dX10_go_277 rfl (lv_at hl 0 rfl) ?_
  refine lv_dup hx hb dX10_go_278 rfl ?_
  refine pg_gI C hH fl_X10_73 hf dX10_go_279 (fun v279 hf => ?_)
  refine lv_iconst (v := (1 : Int32)) hx hb dX10_go_282 (by decide) ?_
  refine lv_iadd hx hb dX10_go_283 ?_
  refine pg_pI C hH fl_X10_73 fm_10_11 hf dX10_go_284 (fun H locs h284 hH hf => ?_)
  refine lv_goto (tgt := 213) hx hb dX10_go_287 (by decide) ?_
  exact k213 hH hf (lv_sub hl [0] rfl)
set_option maxHeartbeats 4000000 in
set_option maxRecDepth 100000 in
theorem wX10_go_b309 {h' : PH} (C : CT g RX10 cX10_go 2 (Cond.code yX10_go cX10_go 2 (none) :: TB) p s m args meth c) (hr : meth.sig.returnType = none) {h : PH} {s0 : Nat} {s1 : Int32} {H : Heap} {locs : List Loc} {ls : Array Slot} (hH : HS g s H locs h) (hf : mX10_go_b309 h s0 s1 = some h') (hl : lv_has ls 2 []) : W p l e (rmD 1 0 0) s m args below meth c H locs 0 0 (MQ below (QcV g h') args s 0 0 (aB g)) (F0 m 309 ls [.int s1, .ref (gB g + s0)]) := by
  obtain ⟨⟨hx, hb, hml, hown, hts⟩, htb, hlk, hkk, hbs⟩ := id C
  unfold mX10_go_b309 at hf
  refine pg_pI C hH fl_X10_90 fm_10_12 hf dX10_go_309 (fun H locs h309 hH hf => ?_)
  refine lv_goto (tgt := 340) hx hb dX10_go_312 (by decide) ?_
  exact pg_vret C hr hH hf dX10_go_340
set_option maxHeartbeats 4000000 in
set_option maxRecDepth 100000 in
theorem wX10_go_b213 {r213 : PH → Nat → Option (PH)} {h' : PH} (C : CT g RX10 cX10_go 2 (Cond.code yX10_go cX10_go 2 (none) :: TB) p s m args meth c) (hr : meth.sig.returnType = none) (k213 : ∀ {h : PH} {a0 : Nat} {H : Heap} {locs : List Loc} {ls : Array Slot}, HS g s H locs h → r213 h a0 = some h' → lv_has ls 2 [(0, .ref (gB g + a0))] → W p l e (rmD 1 0 0) s m args below meth c H locs 0 0 (MQ below (QcV g h') args s 0 0 (aB g)) (F0 m 213 ls [])) {h : PH} {a0 : Nat} {H : Heap} {locs : List Loc} {ls : Array Slot} (hH : HS g s H locs h) (hf : mX10_go_b213 r213 h a0 = some h') (hl : lv_has ls 2 [(0, .ref (gB g + a0))]) : W p l e (rmD 1 0 0) s m args below meth c H locs 0 0 (MQ below (QcV g h') args s 0 0 (aB g)) (F0 m 213 ls []) := by
  obtain ⟨⟨hx, hb, hml, hown, hts⟩, htb, hlk, hkk, hbs⟩ := id C
  unfold mX10_go_b213 at hf
  refine lv_aload_n hx hb dX10_go_213 rfl (lv_at hl 0 rfl) ?_
  refine lv_aload_n hx hb dX10_go_214 rfl (lv_at hl 0 rfl) ?_
  refine pg_gI C hH fl_X10_73 hf dX10_go_215 (fun v215 hf => ?_)
  refine pg_Vi (As := [.int v215]) C hH mi_X10_byteAt vl_X10_76 (q := (RX10, TX10, 34)) (ci := 10) rfl rfl hf (fun _ e1 => (oO_sp e1).1) (fun _ _ e1 => c_X10_byteAt e1) rfl rfl hl.1 (Nat.le_of_ble_eq_true rfl) ⟨Nat.le_of_ble_eq_true rfl, Nat.le_of_ble_eq_true rfl⟩ ⟨Nat.zero_le _, Nat.zero_le _⟩ dX10_go_218 (fun H locs v218 h218 hH hf => ?_)
  refine lv_i2l (v := (Int32.toInt64 v218)) hx hb dX10_go_221 rfl ?_
  refine lv_ldc2 (v := (48 : Int64)) hx hb hown (hts _ (htb _ kl_X10_105)) dX10_go_222 ?_
  refine lv_ldc2 (v := (57 : Int64)) hx hb hown (hts _ (htb _ kl_X10_107)) dX10_go_225 ?_
  refine pg_Si (As := [.long (Int32.toInt64 v218), .long (48 : Int64), .long (57 : Int64)]) C hH mi_X10_within sl_X10_97 hf (fun _ _ e1 => c_X10_within e1) rfl rfl hl.1 (Nat.le_of_ble_eq_true rfl) ⟨Nat.le_of_ble_eq_true rfl, Nat.le_of_ble_eq_true rfl⟩ ⟨Nat.zero_le _, Nat.zero_le _⟩ dX10_go_228 (fun H locs v228 h228 hH hf => ?_)
  refine lv_if_eq (tgt := 290) hx hb dX10_go_231 (by decide) (fun cn => ?_) (fun cn => ?_)
  · have hf := (if_pos cn).symm.trans hf
    refine lv_aload_n hx hb dX10_go_290 rfl (lv_at hl 0 rfl) ?_
    refine lv_aload_n hx hb dX10_go_291 rfl (lv_at hl 0 rfl) ?_
    refine pg_gI C hH fl_X10_73 hf dX10_go_292 (fun v292 hf => ?_)
    refine lv_aload_n hx hb dX10_go_295 rfl (lv_at hl 0 rfl) ?_
    refine pg_gI C hH fl_X10_80 hf dX10_go_296 (fun v296 hf => ?_)
    refine lv_isub hx hb dX10_go_299 ?_
    refine lv_iconst (v := (4 : Int32)) hx hb dX10_go_300 (by decide) ?_
    refine lv_icmp_le (tgt := 308) hx hb dX10_go_301 (by decide) (fun cn => ?_) (fun cn => ?_)
    · have hf := (if_pos cn).symm.trans hf
      refine lv_iconst (v := (2 : Int32)) hx hb dX10_go_308 (by decide) ?_
      exact wX10_go_b309 C hr hH hf (lv_sub hl [] rfl)
    · have hf := (if_neg cn).symm.trans hf
      refine lv_iconst (v := (4 : Int32)) hx hb dX10_go_304 (by decide) ?_
      refine lv_goto (tgt := 309) hx hb dX10_go_305 (by decide) ?_
      exact wX10_go_b309 C hr hH hf (lv_sub hl [] rfl)
  · have hf := (if_neg cn).symm.trans hf
    refine lv_aload_n hx hb dX10_go_234 rfl (lv_at hl 0 rfl) ?_
    refine lv_aload_n hx hb dX10_go_235 rfl (lv_at hl 0 rfl) ?_
    refine pg_gI C hH fl_X10_73 hf dX10_go_236 (fun v236 hf => ?_)
    refine lv_aload_n hx hb dX10_go_239 rfl (lv_at hl 0 rfl) ?_
    refine pg_gI C hH fl_X10_80 hf dX10_go_240 (fun v240 hf => ?_)
    refine lv_isub hx hb dX10_go_243 ?_
    refine lv_iconst (v := (4 : Int32)) hx hb dX10_go_244 (by decide) ?_
    refine lv_icmp_ge (tgt := 270) hx hb dX10_go_245 (by decide) (fun cn => ?_) (fun cn => ?_)
    · have hf := (if_pos cn).symm.trans hf
      refine lv_aload_n hx hb dX10_go_270 rfl (lv_at hl 0 rfl) ?_
      refine pg_gI C hH fl_X10_83 hf dX10_go_271 (fun v271 hf => ?_)
      exact wX10_go_b274 C hr k213 hH hf (lv_sub hl [0] rfl)
    · have hf := (if_neg cn).symm.trans hf
      refine lv_bipush (v := (10 : Int32)) hx hb dX10_go_248 (by decide) ?_
      refine lv_aload_n hx hb dX10_go_250 rfl (lv_at hl 0 rfl) ?_
      refine pg_gI C hH fl_X10_83 hf dX10_go_251 (fun v251 hf => ?_)
      refine lv_imul hx hb dX10_go_254 ?_
      refine lv_aload_n hx hb dX10_go_255 rfl (lv_at hl 0 rfl) ?_
      refine lv_aload_n hx hb dX10_go_256 rfl (lv_at hl 0 rfl) ?_
      refine pg_gI C hH fl_X10_73 hf dX10_go_257 (fun v257 hf => ?_)
      refine pg_Vi (As := [.int v257]) C hH mi_X10_byteAt vl_X10_76 (q := (RX10, TX10, 34)) (ci := 10) rfl rfl hf (fun _ e1 => (oO_sp e1).1) (fun _ _ e1 => c_X10_byteAt e1) rfl rfl hl.1 (Nat.le_of_ble_eq_true rfl) ⟨Nat.le_of_ble_eq_true rfl, Nat.le_of_ble_eq_true rfl⟩ ⟨Nat.zero_le _, Nat.zero_le _⟩ dX10_go_260 (fun H locs v260 h260 hH hf => ?_)
      refine lv_iadd hx hb dX10_go_263 ?_
      refine lv_bipush (v := (48 : Int32)) hx hb dX10_go_264 (by decide) ?_
      refine lv_isub hx hb dX10_go_266 ?_
      refine lv_goto (tgt := 274) hx hb dX10_go_267 (by decide) ?_
      exact wX10_go_b274 C hr k213 hH hf (lv_sub hl [0] rfl)
set_option maxHeartbeats 4000000 in
set_option maxRecDepth 100000 in
theorem wX10_go_L213 {h' : PH} (C : CT g RX10 cX10_go 2 (Cond.code yX10_go cX10_go 2 (none) :: TB) p s m args meth c) (hr : meth.sig.returnType = none) : ∀ (n : Nat) {h : PH} {a0 : Nat} {H : Heap} {locs : List Loc} {ls : Array Slot}, HS g s H locs h → mX10_go_L213 n h a0 = some h' → lv_has ls 2 [(0, .ref (gB g + a0))] → W p l e (rmD 1 0 0) s m args below meth c H locs 0 0 (MQ below (QcV g h') args s 0 0 (aB g)) (F0 m 213 ls []) := by
  intro n
  induction n with
  | zero =>
    intro h a0 H locs ls hH hf hl
    exact absurd hf (by intro z; cases z)
  | succ n ih =>
    intro h a0 H locs ls hH hf hl
    have hf : mX10_go_b213 (mX10_go_L213 n) h a0 = some h' := hf
    exact wX10_go_b213 C hr (fun a b c => ih a b c) hH hf hl
set_option maxHeartbeats 4000000 in
set_option maxRecDepth 100000 in
theorem wX10_go_b337 {h' : PH} (C : CT g RX10 cX10_go 2 (Cond.code yX10_go cX10_go 2 (none) :: TB) p s m args meth c) (hr : meth.sig.returnType = none) {h : PH} {s0 : Nat} {s1 : Int32} {H : Heap} {locs : List Loc} {ls : Array Slot} (hH : HS g s H locs h) (hf : mX10_go_b337 h s0 s1 = some h') (hl : lv_has ls 2 []) : W p l e (rmD 1 0 0) s m args below meth c H locs 0 0 (MQ below (QcV g h') args s 0 0 (aB g)) (F0 m 337 ls [.int s1, .ref (gB g + s0)]) := by
  obtain ⟨⟨hx, hb, hml, hown, hts⟩, htb, hlk, hkk, hbs⟩ := id C
  unfold mX10_go_b337 at hf
  refine pg_pI C hH fl_X10_90 fm_10_12 hf dX10_go_337 (fun H locs h337 hH hf => ?_)
  exact pg_vret C hr hH hf dX10_go_340
set_option maxHeartbeats 4000000 in
set_option maxRecDepth 100000 in
theorem wX10_go_b0 {r0 : PH → Nat → Option (PH)} {h' : PH} (C : CT g RX10 cX10_go 2 (Cond.code yX10_go cX10_go 2 (none) :: TB) p s m args meth c) (hr : meth.sig.returnType = none) (k0 : ∀ {h : PH} {a0 : Nat} {H : Heap} {locs : List Loc} {ls : Array Slot}, HS g s H locs h → r0 h a0 = some h' → lv_has ls 2 [(0, .ref (gB g + a0))] → W p l e (rmD 1 0 0) s m args below meth c H locs 0 0 (MQ below (QcV g h') args s 0 0 (aB g)) (F0 m 0 ls [])) {h : PH} {a0 : Nat} {H : Heap} {locs : List Loc} {ls : Array Slot} (hH : HS g s H locs h) (hf : mX10_go_b0 r0 h a0 = some h') (hl : lv_has ls 2 [(0, .ref (gB g + a0))]) : W p l e (rmD 1 0 0) s m args below meth c H locs 0 0 (MQ below (QcV g h') args s 0 0 (aB g)) (F0 m 0 ls []) := by
  obtain ⟨⟨hx, hb, hml, hown, hts⟩, htb, hlk, hkk, hbs⟩ := id C
  unfold mX10_go_b0 at hf
  refine lv_aload_n hx hb dX10_go_0 rfl (lv_at hl 0 rfl) ?_
  refine lv_aload_n hx hb dX10_go_1 rfl (lv_at hl 0 rfl) ?_
  refine pg_gI C hH fl_X10_73 hf dX10_go_2 (fun v2 hf => ?_)
  refine pg_Vi (As := [.int v2]) C hH mi_X10_byteAt vl_X10_76 (q := (RX10, TX10, 34)) (ci := 10) rfl rfl hf (fun _ e1 => (oO_sp e1).1) (fun _ _ e1 => c_X10_byteAt e1) rfl rfl hl.1 (Nat.le_of_ble_eq_true rfl) ⟨Nat.le_of_ble_eq_true rfl, Nat.le_of_ble_eq_true rfl⟩ ⟨Nat.zero_le _, Nat.zero_le _⟩ dX10_go_5 (fun H locs v5 h5 hH hf => ?_)
  refine lv_bipush (v := (32 : Int32)) hx hb dX10_go_8 (by decide) ?_
  refine lv_icmp_eq (tgt := 26) hx hb dX10_go_10 (by decide) (fun cn => ?_) (fun cn => ?_)
  · have hf := (if_pos cn).symm.trans hf
    exact wX10_go_b26 C hr k0 hH hf (lv_sub hl [0] rfl)
  · have hf := (if_neg cn).symm.trans hf
    refine lv_aload_n hx hb dX10_go_13 rfl (lv_at hl 0 rfl) ?_
    refine lv_aload_n hx hb dX10_go_14 rfl (lv_at hl 0 rfl) ?_
    refine pg_gI C hH fl_X10_73 hf dX10_go_15 (fun v15 hf => ?_)
    refine pg_Vi (As := [.int v15]) C hH mi_X10_byteAt vl_X10_76 (q := (RX10, TX10, 34)) (ci := 10) rfl rfl hf (fun _ e1 => (oO_sp e1).1) (fun _ _ e1 => c_X10_byteAt e1) rfl rfl hl.1 (Nat.le_of_ble_eq_true rfl) ⟨Nat.le_of_ble_eq_true rfl, Nat.le_of_ble_eq_true rfl⟩ ⟨Nat.zero_le _, Nat.zero_le _⟩ dX10_go_18 (fun H locs v18 h18 hH hf => ?_)
    refine lv_bipush (v := (10 : Int32)) hx hb dX10_go_21 (by decide) ?_
    refine lv_icmp_ne (tgt := 39) hx hb dX10_go_23 (by decide) (fun cn => ?_) (fun cn => ?_)
    · have hf := (if_neg cn).symm.trans hf
      refine lv_aload_n hx hb dX10_go_39 rfl (lv_at hl 0 rfl) ?_
      refine lv_aload_n hx hb dX10_go_40 rfl (lv_at hl 0 rfl) ?_
      refine pg_gI C hH fl_X10_73 hf dX10_go_41 (fun v41 hf => ?_)
      refine pg_pI C hH fl_X10_80 fm_10_10 hf dX10_go_44 (fun H locs h44 hH hf => ?_)
      refine lv_aload_n hx hb dX10_go_47 rfl (lv_at hl 0 rfl) ?_
      refine lv_iconst (v := (0 : Int32)) hx hb dX10_go_48 (by decide) ?_
      refine pg_pI C hH fl_X10_83 fm_10_13 hf dX10_go_49 (fun H locs h49 hH hf => ?_)
      refine lv_aload_n hx hb dX10_go_52 rfl (lv_at hl 0 rfl) ?_
      refine lv_lconst (v := (0 : Int64)) hx hb dX10_go_53 (by decide) ?_
      refine pg_pL C hH fl_X10_86 fm_10_14 hf dX10_go_54 (fun H locs h54 hH hf => ?_)
      refine lv_aload_n hx hb dX10_go_57 rfl (lv_at hl 0 rfl) ?_
      refine lv_aload_n hx hb dX10_go_58 rfl (lv_at hl 0 rfl) ?_
      refine pg_gI C hH fl_X10_73 hf dX10_go_59 (fun v59 hf => ?_)
      refine pg_Vi (As := [.int v59]) C hH mi_X10_byteAt vl_X10_76 (q := (RX10, TX10, 34)) (ci := 10) rfl rfl hf (fun _ e1 => (oO_sp e1).1) (fun _ _ e1 => c_X10_byteAt e1) rfl rfl hl.1 (Nat.le_of_ble_eq_true rfl) ⟨Nat.le_of_ble_eq_true rfl, Nat.le_of_ble_eq_true rfl⟩ ⟨Nat.zero_le _, Nat.zero_le _⟩ dX10_go_62 (fun H locs v62 h62 hH hf => ?_)
      refine lv_istore_n (lv' := [(1, .int v62), (0, .ref (gB g + a0))]) hx hb dX10_go_65 rfl hl (by decide) rfl (fun ls hl => ?_)
      refine lv_iload_n hx hb dX10_go_66 rfl (lv_at hl 0 rfl) ?_
      refine lv_if_ge (tgt := 78) hx hb dX10_go_67 (by decide) (fun cn => ?_) (fun cn => ?_)
      · have hf := (if_pos cn).symm.trans hf
        refine lv_iload_n hx hb dX10_go_78 rfl (lv_at hl 0 rfl) ?_
        refine lv_i2l (v := (Int32.toInt64 v62)) hx hb dX10_go_79 rfl ?_
        refine lv_ldc2 (v := (97 : Int64)) hx hb hown (hts _ (htb _ kl_X10_93)) dX10_go_80 ?_
        refine lv_ldc2 (v := (122 : Int64)) hx hb hown (hts _ (htb _ kl_X10_95)) dX10_go_83 ?_
        refine pg_Si (As := [.long (Int32.toInt64 v62), .long (97 : Int64), .long (122 : Int64)]) C hH mi_X10_within sl_X10_97 hf (fun _ _ e1 => c_X10_within e1) rfl rfl hl.1 (Nat.le_of_ble_eq_true rfl) ⟨Nat.le_of_ble_eq_true rfl, Nat.le_of_ble_eq_true rfl⟩ ⟨Nat.zero_le _, Nat.zero_le _⟩ dX10_go_86 (fun H locs v86 h86 hH hf => ?_)
        refine lv_if_eq (tgt := 199) hx hb dX10_go_89 (by decide) (fun cn => ?_) (fun cn => ?_)
        · have hf := (if_pos cn).symm.trans hf
          refine lv_iload_n hx hb dX10_go_199 rfl (lv_at hl 0 rfl) ?_
          refine lv_i2l (v := (Int32.toInt64 v62)) hx hb dX10_go_200 rfl ?_
          refine lv_ldc2 (v := (48 : Int64)) hx hb hown (hts _ (htb _ kl_X10_105)) dX10_go_201 ?_
          refine lv_ldc2 (v := (57 : Int64)) hx hb hown (hts _ (htb _ kl_X10_107)) dX10_go_204 ?_
          refine pg_Si (As := [.long (Int32.toInt64 v62), .long (48 : Int64), .long (57 : Int64)]) C hH mi_X10_within sl_X10_97 hf (fun _ _ e1 => c_X10_within e1) rfl rfl hl.1 (Nat.le_of_ble_eq_true rfl) ⟨Nat.le_of_ble_eq_true rfl, Nat.le_of_ble_eq_true rfl⟩ ⟨Nat.zero_le _, Nat.zero_le _⟩ dX10_go_207 (fun H locs v207 h207 hH hf => ?_)
          refine lv_if_eq (tgt := 315) hx hb dX10_go_210 (by decide) (fun cn => ?_) (fun cn => ?_)
          · have hf := (if_pos cn).symm.trans hf
            refine lv_aload_n hx hb dX10_go_315 rfl (lv_at hl 1 rfl) ?_
            refine lv_dup hx hb dX10_go_316 rfl ?_
            refine pg_gI C hH fl_X10_73 hf dX10_go_317 (fun v317 hf => ?_)
            refine lv_iconst (v := (1 : Int32)) hx hb dX10_go_320 (by decide) ?_
            refine lv_iadd hx hb dX10_go_321 ?_
            refine pg_pI C hH fl_X10_73 fm_10_11 hf dX10_go_322 (fun H locs h322 hH hf => ?_)
            refine lv_aload_n hx hb dX10_go_325 rfl (lv_at hl 1 rfl) ?_
            refine lv_iload_n hx hb dX10_go_326 rfl (lv_at hl 0 rfl) ?_
            refine lv_bipush (v := (59 : Int32)) hx hb dX10_go_327 (by decide) ?_
            refine lv_icmp_ne (tgt := 336) hx hb dX10_go_329 (by decide) (fun cn => ?_) (fun cn => ?_)
            · have hf := (if_neg cn).symm.trans hf
              refine lv_iconst (v := (4 : Int32)) hx hb dX10_go_336 (by decide) ?_
              exact wX10_go_b337 C hr hH hf (lv_sub hl [] rfl)
            · have hf := (if_pos cn).symm.trans hf
              refine lv_iconst (v := (3 : Int32)) hx hb dX10_go_332 (by decide) ?_
              refine lv_goto (tgt := 337) hx hb dX10_go_333 (by decide) ?_
              exact wX10_go_b337 C hr hH hf (lv_sub hl [] rfl)
          · have hf := (if_neg cn).symm.trans hf
            exact wX10_go_L213 C hr FU hH hf (lv_sub hl [1] rfl)
        · have hf := (if_neg cn).symm.trans hf
          exact wX10_go_L92 C hr FU hH hf (lv_sub hl [1] rfl)
      · have hf := (if_neg cn).symm.trans hf
        refine lv_aload_n hx hb dX10_go_70 rfl (lv_at hl 1 rfl) ?_
        refine lv_iconst (v := (0 : Int32)) hx hb dX10_go_71 (by decide) ?_
        refine pg_pI C hH fl_X10_90 fm_10_12 hf dX10_go_72 (fun H locs h72 hH hf => ?_)
        refine lv_goto (tgt := 340) hx hb dX10_go_75 (by decide) ?_
        exact pg_vret C hr hH hf dX10_go_340
    · have hf := (if_pos cn).symm.trans hf
      exact wX10_go_b26 C hr k0 hH hf (lv_sub hl [0] rfl)
set_option maxHeartbeats 4000000 in
set_option maxRecDepth 100000 in
theorem wX10_go_L0 {h' : PH} (C : CT g RX10 cX10_go 2 (Cond.code yX10_go cX10_go 2 (none) :: TB) p s m args meth c) (hr : meth.sig.returnType = none) : ∀ (n : Nat) {h : PH} {a0 : Nat} {H : Heap} {locs : List Loc} {ls : Array Slot}, HS g s H locs h → mX10_go_L0 n h a0 = some h' → lv_has ls 2 [(0, .ref (gB g + a0))] → W p l e (rmD 1 0 0) s m args below meth c H locs 0 0 (MQ below (QcV g h') args s 0 0 (aB g)) (F0 m 0 ls []) := by
  intro n
  induction n with
  | zero =>
    intro h a0 H locs ls hH hf hl
    exact absurd hf (by intro z; cases z)
  | succ n ih =>
    intro h a0 H locs ls hH hf hl
    have hf : mX10_go_b0 (mX10_go_L0 n) h a0 = some h' := hf
    exact wX10_go_b0 C hr (fun a b c => ih a b c) hH hf hl
set_option maxHeartbeats 4000000 in
set_option maxRecDepth 100000 in
theorem c_X10_go {l : Launch} {g : GD} {h : PH} {a0 : Nat} {h' : PH} (hf : mX10_go h a0 = some h') : Met l yX10_go (Cond.code yX10_go cX10_go 2 (none) :: TB) (rmD 1 0 0) (PcH g [.ref (gB g + a0)] h) (QcV g h') 0 0 (aB g) := by
  refine Met.ofW (cc := cX10_go) (maxL := 2) (ret := none) (by decide) rfl ?_
  intro p e s m args below meth c s₁ B hml hv
  obtain ⟨rfl, hH0, hkk0⟩ := hv
  have C : CT g RX10 cX10_go 2 (Cond.code yX10_go cX10_go 2 (none) :: TB) p s m _ meth c := pg_ct (Tw := []) B hml hH0 hkk0
  have hr := B.returns
  have hH : HS g s s.heap [] h := ⟨hH0, va_S.rf⟩
  have hl := lv_entry ([.ref (gB g + a0)]) (n := 2) (Nat.le_of_ble_eq_true rfl)
  rw [lg_entry_eq]
  generalize (lg_sl ([.ref (gB g + a0)]) ++ List.replicate (2 - (lg_sl ([.ref (gB g + a0)])).length) Slot.unset).toArray = ls at hl ⊢
  have hl : lv_has ls 2 [(0, .ref (gB g + a0))] := hl
  show W p l e (rmD 1 0 0) _ _ _ _ _ _ _ _ _ _ _ _
  unfold mX10_go at hf
  obtain ⟨hO, hf⟩ := oO_sp hf
  obtain ⟨⟨hx, hb, hml, hown, hts⟩, htb, hlk, hkk, hbs⟩ := id C
  exact wX10_go_L0 C hr FU hH hf (lv_sub hl [0] rfl)
set_option maxHeartbeats 4000000 in
set_option maxRecDepth 100000 in
theorem c_X10_is {l : Launch} {g : GD} {h : PH} {a0 : Nat} {x1 : Int64} {r : Int32} {h' : PH} (hf : mX10_is h a0 x1 = some (r, h')) : Met l yX10_is (Cond.code yX10_is cX10_is 3 (some .boolean) :: TB) (rmD 0 0 0) (PcH g [.ref (gB g + a0), .long x1] h) (QcI g r h') 0 0 (aB g) := by
  refine Met.ofW (cc := cX10_is) (maxL := 3) (ret := some .boolean) (by decide) rfl ?_
  intro p e s m args below meth c s₁ B hml hv
  obtain ⟨rfl, hH0, hkk0⟩ := hv
  have C : CT g RX10 cX10_is 3 (Cond.code yX10_is cX10_is 3 (some .boolean) :: TB) p s m _ meth c := pg_ct (Tw := []) B hml hH0 hkk0
  have hr := B.returns
  have hH : HS g s s.heap [] h := ⟨hH0, va_S.rf⟩
  have hl := lv_entry ([.ref (gB g + a0), .long x1]) (n := 3) (Nat.le_of_ble_eq_true rfl)
  rw [lg_entry_eq]
  generalize (lg_sl ([.ref (gB g + a0), .long x1]) ++ List.replicate (3 - (lg_sl ([.ref (gB g + a0), .long x1])).length) Slot.unset).toArray = ls at hl ⊢
  have hl : lv_has ls 3 [(0, .ref (gB g + a0)), (1, .long x1)] := hl
  show W p l e (rmD 0 0 0) _ _ _ _ _ _ _ _ _ _ _ _
  unfold mX10_is at hf
  obtain ⟨hO, hf⟩ := oO_sp hf
  obtain ⟨⟨hx, hb, hml, hown, hts⟩, htb, hlk, hkk, hbs⟩ := id C
  refine lv_aload_n hx hb dX10_is_0 rfl (lv_at hl 0 rfl) ?_
  refine pg_gI C hH fl_X10_90 hf dX10_is_1 (fun v1 hf => ?_)
  refine lv_iconst (v := (1 : Int32)) hx hb dX10_is_4 (by decide) ?_
  refine lv_icmp_ne (tgt := 21) hx hb dX10_is_5 (by decide) (fun cn => ?_) (fun cn => ?_)
  · have hf := (if_neg cn).symm.trans hf
    refine lv_iconst (v := (0 : Int32)) hx hb dX10_is_21 (by decide) ?_
    exact pg_zret C hr hH hf dX10_is_22
  · have hf := (if_pos cn).symm.trans hf
    refine lv_aload_n hx hb dX10_is_8 rfl (lv_at hl 0 rfl) ?_
    refine pg_gL C hH fl_X10_86 hf dX10_is_9 (fun v9 hf => ?_)
    refine lv_lload_n hx hb dX10_is_12 rfl (lv_at hl 1 rfl) ?_
    refine W.lcmp hx hb dX10_is_13 ?_
    refine lv_if_ne (tgt := 21) hx hb dX10_is_14 (by decide) (fun cn => ?_) (fun cn => ?_)
    · have hf := (if_neg (fun z => cn ((lg_cmp_eq _ _).mpr z))).symm.trans hf
      refine lv_iconst (v := (0 : Int32)) hx hb dX10_is_21 (by decide) ?_
      exact pg_zret C hr hH hf dX10_is_22
    · have hf := (if_pos ((lg_cmp_eq _ _).mp cn)).symm.trans hf
      refine lv_iconst (v := (1 : Int32)) hx hb dX10_is_17 (by decide) ?_
      refine lv_goto (tgt := 22) hx hb dX10_is_18 (by decide) ?_
      exact pg_zret C hr hH hf dX10_is_22
set_option maxHeartbeats 4000000 in
set_option maxRecDepth 100000 in
theorem wX10_bad_b24 {r : Int32} {h' : PH} (C : CT g RX10 cX10_bad 2 (Cond.code yX10_bad cX10_bad 2 (some .boolean) :: TB) p s m args meth c) (hr : meth.sig.returnType = some .boolean) {h : PH} {s0 : Nat} {s1 : Int32} {H : Heap} {locs : List Loc} {ls : Array Slot} (hH : HS g s H locs h) (hf : mX10_bad_b24 h s0 s1 = some (r, h')) (hl : lv_has ls 2 []) : W p l e (rmD 0 0 0) s m args below meth c H locs 0 0 (MQ below (QcI g r h') args s 0 0 (aB g)) (F0 m 24 ls [.int s1, .ref (gB g + s0)]) := by
  obtain ⟨⟨hx, hb, hml, hown, hts⟩, htb, hlk, hkk, hbs⟩ := id C
  unfold mX10_bad_b24 at hf
  refine pg_pI C hH fl_X10_109 fm_10_15 hf dX10_bad_24 (fun H locs h24 hH hf => ?_)
  refine lv_iconst (v := (0 : Int32)) hx hb dX10_bad_27 (by decide) ?_
  exact pg_zret C hr hH hf dX10_bad_28
set_option maxHeartbeats 4000000 in
set_option maxRecDepth 100000 in
theorem c_X10_bad {l : Launch} {g : GD} {h : PH} {a0 : Nat} {x1 : Int32} {r : Int32} {h' : PH} (hf : mX10_bad h a0 x1 = some (r, h')) : Met l yX10_bad (Cond.code yX10_bad cX10_bad 2 (some .boolean) :: TB) (rmD 0 0 0) (PcH g [.ref (gB g + a0), .int x1] h) (QcI g r h') 0 0 (aB g) := by
  refine Met.ofW (cc := cX10_bad) (maxL := 2) (ret := some .boolean) (by decide) rfl ?_
  intro p e s m args below meth c s₁ B hml hv
  obtain ⟨rfl, hH0, hkk0⟩ := hv
  have C : CT g RX10 cX10_bad 2 (Cond.code yX10_bad cX10_bad 2 (some .boolean) :: TB) p s m _ meth c := pg_ct (Tw := []) B hml hH0 hkk0
  have hr := B.returns
  have hH : HS g s s.heap [] h := ⟨hH0, va_S.rf⟩
  have hl := lv_entry ([.ref (gB g + a0), .int x1]) (n := 2) (Nat.le_of_ble_eq_true rfl)
  rw [lg_entry_eq]
  generalize (lg_sl ([.ref (gB g + a0), .int x1]) ++ List.replicate (2 - (lg_sl ([.ref (gB g + a0), .int x1])).length) Slot.unset).toArray = ls at hl ⊢
  have hl : lv_has ls 2 [(0, .ref (gB g + a0)), (1, .int x1)] := hl
  show W p l e (rmD 0 0 0) _ _ _ _ _ _ _ _ _ _ _ _
  unfold mX10_bad at hf
  obtain ⟨hO, hf⟩ := oO_sp hf
  obtain ⟨⟨hx, hb, hml, hown, hts⟩, htb, hlk, hkk, hbs⟩ := id C
  refine lv_aload_n hx hb dX10_bad_0 rfl (lv_at hl 0 rfl) ?_
  refine lv_aload_n hx hb dX10_bad_1 rfl (lv_at hl 0 rfl) ?_
  refine pg_gI C hH fl_X10_109 hf dX10_bad_2 (fun v2 hf => ?_)
  refine lv_if_ne (tgt := 20) hx hb dX10_bad_5 (by decide) (fun cn => ?_) (fun cn => ?_)
  · have hf := (if_neg cn).symm.trans hf
    refine lv_aload_n hx hb dX10_bad_20 rfl (lv_at hl 0 rfl) ?_
    refine pg_gI C hH fl_X10_109 hf dX10_bad_21 (fun v21 hf => ?_)
    exact wX10_bad_b24 C hr hH hf (lv_sub hl [] rfl)
  · have hf := (if_pos cn).symm.trans hf
    refine lv_bipush (v := (8 : Int32)) hx hb dX10_bad_8 (by decide) ?_
    refine lv_aload_n hx hb dX10_bad_10 rfl (lv_at hl 0 rfl) ?_
    refine pg_gI C hH fl_X10_80 hf dX10_bad_11 (fun v11 hf => ?_)
    refine lv_imul hx hb dX10_bad_14 ?_
    refine lv_iload_n hx hb dX10_bad_15 rfl (lv_at hl 1 rfl) ?_
    refine lv_iadd hx hb dX10_bad_16 ?_
    refine lv_goto (tgt := 24) hx hb dX10_bad_17 (by decide) ?_
    exact wX10_bad_b24 C hr hH hf (lv_sub hl [] rfl)
set_option maxHeartbeats 4000000 in
set_option maxRecDepth 100000 in
theorem c_X10_number {l : Launch} {g : GD} {h : PH} {a0 : Nat} {x1 : Int32} {x2 : Int32} {r : Int32} {h' : PH} (hf : mX10_number h a0 x1 x2 = some (r, h')) : Met l yX10_number (Cond.code yX10_number cX10_number 3 (some .boolean) :: TB) (rmD 2 0 0) (PcH g [.ref (gB g + a0), .int x1, .int x2] h) (QcI g r h') 0 0 (aB g) := by
  refine Met.ofW (cc := cX10_number) (maxL := 3) (ret := some .boolean) (by decide) rfl ?_
  intro p e s m args below meth c s₁ B hml hv
  obtain ⟨rfl, hH0, hkk0⟩ := hv
  have C : CT g RX10 cX10_number 3 (Cond.code yX10_number cX10_number 3 (some .boolean) :: TB) p s m _ meth c := pg_ct (Tw := []) B hml hH0 hkk0
  have hr := B.returns
  have hH : HS g s s.heap [] h := ⟨hH0, va_S.rf⟩
  have hl := lv_entry ([.ref (gB g + a0), .int x1, .int x2]) (n := 3) (Nat.le_of_ble_eq_true rfl)
  rw [lg_entry_eq]
  generalize (lg_sl ([.ref (gB g + a0), .int x1, .int x2]) ++ List.replicate (3 - (lg_sl ([.ref (gB g + a0), .int x1, .int x2])).length) Slot.unset).toArray = ls at hl ⊢
  have hl : lv_has ls 3 [(0, .ref (gB g + a0)), (1, .int x1), (2, .int x2)] := hl
  show W p l e (rmD 2 0 0) _ _ _ _ _ _ _ _ _ _ _ _
  unfold mX10_number at hf
  obtain ⟨hO, hf⟩ := oO_sp hf
  obtain ⟨⟨hx, hb, hml, hown, hts⟩, htb, hlk, hkk, hbs⟩ := id C
  refine lv_aload_n hx hb dX10_number_0 rfl (lv_at hl 0 rfl) ?_
  refine pg_gI C hH fl_X10_90 hf dX10_number_1 (fun v1 hf => ?_)
  refine lv_iconst (v := (2 : Int32)) hx hb dX10_number_4 (by decide) ?_
  refine lv_icmp_eq (tgt := 14) hx hb dX10_number_5 (by decide) (fun cn => ?_) (fun cn => ?_)
  · have hf := (if_pos cn).symm.trans hf
    refine lv_aload_n hx hb dX10_number_14 rfl (lv_at hl 0 rfl) ?_
    refine pg_gI C hH fl_X10_83 hf dX10_number_15 (fun v15 hf => ?_)
    refine lv_i2l (v := (Int32.toInt64 v15)) hx hb dX10_number_18 rfl ?_
    refine lv_iload_n hx hb dX10_number_19 rfl (lv_at hl 1 rfl) ?_
    refine lv_i2l (v := (Int32.toInt64 x1)) hx hb dX10_number_20 rfl ?_
    refine lv_iload_n hx hb dX10_number_21 rfl (lv_at hl 2 rfl) ?_
    refine lv_i2l (v := (Int32.toInt64 x2)) hx hb dX10_number_22 rfl ?_
    refine pg_Si (As := [.long (Int32.toInt64 v15), .long (Int32.toInt64 x1), .long (Int32.toInt64 x2)]) C hH mi_X10_within sl_X10_97 hf (fun _ _ e1 => c_X10_within e1) rfl rfl hl.1 (Nat.le_of_ble_eq_true rfl) ⟨Nat.le_of_ble_eq_true rfl, Nat.le_of_ble_eq_true rfl⟩ ⟨Nat.zero_le _, Nat.zero_le _⟩ dX10_number_23 (fun H locs v23 h23 hH hf => ?_)
    refine lv_if_ne (tgt := 35) hx hb dX10_number_26 (by decide) (fun cn => ?_) (fun cn => ?_)
    · have hf := (if_neg cn).symm.trans hf
      refine lv_aload_n hx hb dX10_number_35 rfl (lv_at hl 0 rfl) ?_
      refine lv_aload_n hx hb dX10_number_36 rfl (lv_at hl 0 rfl) ?_
      refine pg_gI C hH fl_X10_83 hf dX10_number_37 (fun v37 hf => ?_)
      refine pg_pI C hH fl_X10_116 fm_10_16 hf dX10_number_40 (fun H locs h40 hH hf => ?_)
      refine lv_aload_n hx hb dX10_number_43 rfl (lv_at hl 0 rfl) ?_
      refine pg_Vv (As := []) C hH mi_X10_go vl_X10_119 (q := (RX10, TX10, 34)) (ci := 10) rfl rfl hf (fun _ e1 => (oO_sp e1).1) (fun _ e1 => c_X10_go e1) rfl rfl hl.1 (Nat.le_of_ble_eq_true rfl) ⟨Nat.le_of_ble_eq_true rfl, Nat.le_of_ble_eq_true rfl⟩ ⟨Nat.zero_le _, Nat.zero_le _⟩ dX10_number_44 (fun H locs h44 hH hf => ?_)
      refine lv_iconst (v := (1 : Int32)) hx hb dX10_number_47 (by decide) ?_
      exact pg_zret C hr hH hf dX10_number_48
    · have hf := (if_pos cn).symm.trans hf
      refine lv_aload_n hx hb dX10_number_29 rfl (lv_at hl 0 rfl) ?_
      refine lv_iconst (v := (4 : Int32)) hx hb dX10_number_30 (by decide) ?_
      refine pg_Vi (As := [.int (4 : Int32)]) C hH mi_X10_bad vl_X10_112 (q := (RX10, TX10, 34)) (ci := 10) rfl rfl hf (fun _ e1 => (oO_sp e1).1) (fun _ _ e1 => c_X10_bad e1) rfl rfl hl.1 (Nat.le_of_ble_eq_true rfl) ⟨Nat.le_of_ble_eq_true rfl, Nat.le_of_ble_eq_true rfl⟩ ⟨Nat.zero_le _, Nat.zero_le _⟩ dX10_number_31 (fun H locs v31 h31 hH hf => ?_)
      exact pg_zret C hr hH hf dX10_number_34
  · have hf := (if_neg cn).symm.trans hf
    refine lv_aload_n hx hb dX10_number_8 rfl (lv_at hl 0 rfl) ?_
    refine lv_iconst (v := (1 : Int32)) hx hb dX10_number_9 (by decide) ?_
    refine pg_Vi (As := [.int (1 : Int32)]) C hH mi_X10_bad vl_X10_112 (q := (RX10, TX10, 34)) (ci := 10) rfl rfl hf (fun _ e1 => (oO_sp e1).1) (fun _ _ e1 => c_X10_bad e1) rfl rfl hl.1 (Nat.le_of_ble_eq_true rfl) ⟨Nat.le_of_ble_eq_true rfl, Nat.le_of_ble_eq_true rfl⟩ ⟨Nat.zero_le _, Nat.zero_le _⟩ dX10_number_10 (fun H locs v10 h10 hH hf => ?_)
    exact pg_zret C hr hH hf dX10_number_13
set_option maxHeartbeats 4000000 in
set_option maxRecDepth 100000 in
theorem c_X10_after {l : Launch} {g : GD} {h : PH} {a0 : Nat} {x1 : Int64} {x3 : Int32} {x4 : Int32} {r : Int32} {h' : PH} (hf : mX10_after h a0 x1 x3 x4 = some (r, h')) : Met l yX10_after (Cond.code yX10_after cX10_after 5 (some .boolean) :: TB) (rmD 3 0 0) (PcH g [.ref (gB g + a0), .long x1, .int x3, .int x4] h) (QcI g r h') 0 0 (aB g) := by
  refine Met.ofW (cc := cX10_after) (maxL := 5) (ret := some .boolean) (by decide) rfl ?_
  intro p e s m args below meth c s₁ B hml hv
  obtain ⟨rfl, hH0, hkk0⟩ := hv
  have C : CT g RX10 cX10_after 5 (Cond.code yX10_after cX10_after 5 (some .boolean) :: TB) p s m _ meth c := pg_ct (Tw := []) B hml hH0 hkk0
  have hr := B.returns
  have hH : HS g s s.heap [] h := ⟨hH0, va_S.rf⟩
  have hl := lv_entry ([.ref (gB g + a0), .long x1, .int x3, .int x4]) (n := 5) (Nat.le_of_ble_eq_true rfl)
  rw [lg_entry_eq]
  generalize (lg_sl ([.ref (gB g + a0), .long x1, .int x3, .int x4]) ++ List.replicate (5 - (lg_sl ([.ref (gB g + a0), .long x1, .int x3, .int x4])).length) Slot.unset).toArray = ls at hl ⊢
  have hl : lv_has ls 5 [(0, .ref (gB g + a0)), (1, .long x1), (3, .int x3), (4, .int x4)] := hl
  show W p l e (rmD 3 0 0) _ _ _ _ _ _ _ _ _ _ _ _
  unfold mX10_after at hf
  obtain ⟨hO, hf⟩ := oO_sp hf
  obtain ⟨⟨hx, hb, hml, hown, hts⟩, htb, hlk, hkk, hbs⟩ := id C
  refine lv_aload_n hx hb dX10_after_0 rfl (lv_at hl 0 rfl) ?_
  refine lv_lload_n hx hb dX10_after_1 rfl (lv_at hl 1 rfl) ?_
  refine pg_Vi (As := [.long x1]) C hH mi_X10_is vl_X10_122 (q := (RX10, TX10, 34)) (ci := 10) rfl rfl hf (fun _ e1 => (oO_sp e1).1) (fun _ _ e1 => c_X10_is e1) rfl rfl hl.1 (Nat.le_of_ble_eq_true rfl) ⟨Nat.le_of_ble_eq_true rfl, Nat.le_of_ble_eq_true rfl⟩ ⟨Nat.zero_le _, Nat.zero_le _⟩ dX10_after_2 (fun H locs v2 h2 hH hf => ?_)
  refine lv_if_ne (tgt := 14) hx hb dX10_after_5 (by decide) (fun cn => ?_) (fun cn => ?_)
  · have hf := (if_neg cn).symm.trans hf
    refine lv_aload_n hx hb dX10_after_14 rfl (lv_at hl 0 rfl) ?_
    refine pg_Vv (As := []) C hH mi_X10_go vl_X10_119 (q := (RX10, TX10, 34)) (ci := 10) rfl rfl hf (fun _ e1 => (oO_sp e1).1) (fun _ e1 => c_X10_go e1) rfl rfl hl.1 (Nat.le_of_ble_eq_true rfl) ⟨Nat.le_of_ble_eq_true rfl, Nat.le_of_ble_eq_true rfl⟩ ⟨Nat.zero_le _, Nat.zero_le _⟩ dX10_after_15 (fun H locs h15 hH hf => ?_)
    refine lv_aload_n hx hb dX10_after_18 rfl (lv_at hl 0 rfl) ?_
    refine lv_iload_n hx hb dX10_after_19 rfl (lv_at hl 2 rfl) ?_
    refine lv_iload hx hb dX10_after_20 (lv_at hl 3 rfl) ?_
    refine pg_Vi (As := [.int x3, .int x4]) C hH mi_X10_number vl_X10_126 (q := (RX10, TX10, 34)) (ci := 10) rfl rfl hf (fun _ e1 => (oO_sp e1).1) (fun _ _ e1 => c_X10_number e1) rfl rfl hl.1 (Nat.le_of_ble_eq_true rfl) ⟨Nat.le_of_ble_eq_true rfl, Nat.le_of_ble_eq_true rfl⟩ ⟨Nat.zero_le _, Nat.zero_le _⟩ dX10_after_22 (fun H locs v22 h22 hH hf => ?_)
    exact pg_zret C hr hH hf dX10_after_25
  · have hf := (if_pos cn).symm.trans hf
    refine lv_aload_n hx hb dX10_after_8 rfl (lv_at hl 0 rfl) ?_
    refine lv_iconst (v := (1 : Int32)) hx hb dX10_after_9 (by decide) ?_
    refine pg_Vi (As := [.int (1 : Int32)]) C hH mi_X10_bad vl_X10_112 (q := (RX10, TX10, 34)) (ci := 10) rfl rfl hf (fun _ e1 => (oO_sp e1).1) (fun _ _ e1 => c_X10_bad e1) rfl rfl hl.1 (Nat.le_of_ble_eq_true rfl) ⟨Nat.le_of_ble_eq_true rfl, Nat.le_of_ble_eq_true rfl⟩ ⟨Nat.zero_le _, Nat.zero_le _⟩ dX10_after_10 (fun H locs v10 h10 hH hf => ?_)
    exact pg_zret C hr hH hf dX10_after_13
set_option maxHeartbeats 4000000 in
set_option maxRecDepth 100000 in
theorem wX10_isName_b345 {r : Int32} {h' : PH} (C : CT g RX10 cX10_isName 2 (Cond.code yX10_isName cX10_isName 2 (some .boolean) :: TB) p s m args meth c) (hr : meth.sig.returnType = some .boolean) {h : PH} {a0 : Nat} {s0 : Int32} {H : Heap} {locs : List Loc} {ls : Array Slot} (hH : HS g s H locs h) (hf : mX10_isName_b345 h a0 s0 = some (r, h')) (hl : lv_has ls 2 [(0, .ref (gB g + a0))]) : W p l e (rmD 1 0 0) s m args below meth c H locs 0 0 (MQ below (QcI g r h') args s 0 0 (aB g)) (F0 m 345 ls [.int s0]) := by
  obtain ⟨⟨hx, hb, hml, hown, hts⟩, htb, hlk, hkk, hbs⟩ := id C
  unfold mX10_isName_b345 at hf
  refine lv_istore_n (lv' := [(1, .int s0), (0, .ref (gB g + a0))]) hx hb dX10_isName_345 rfl hl (by decide) rfl (fun ls hl => ?_)
  refine lv_aload_n hx hb dX10_isName_346 rfl (lv_at hl 1 rfl) ?_
  refine pg_gI C hH fl_X10_90 hf dX10_isName_347 (fun v347 hf => ?_)
  refine lv_iconst (v := (1 : Int32)) hx hb dX10_isName_350 (by decide) ?_
  refine lv_icmp_ne (tgt := 362) hx hb dX10_isName_351 (by decide) (fun cn => ?_) (fun cn => ?_)
  · have hf := (if_neg cn).symm.trans hf
    refine lv_iconst (v := (0 : Int32)) hx hb dX10_isName_362 (by decide) ?_
    exact pg_zret C hr hH hf dX10_isName_363
  · have hf := (if_pos cn).symm.trans hf
    refine lv_iload_n hx hb dX10_isName_354 rfl (lv_at hl 0 rfl) ?_
    refine lv_if_ne (tgt := 362) hx hb dX10_isName_355 (by decide) (fun cn => ?_) (fun cn => ?_)
    · have hf := (if_neg cn).symm.trans hf
      refine lv_iconst (v := (0 : Int32)) hx hb dX10_isName_362 (by decide) ?_
      exact pg_zret C hr hH hf dX10_isName_363
    · have hf := (if_pos cn).symm.trans hf
      refine lv_iconst (v := (1 : Int32)) hx hb dX10_isName_358 (by decide) ?_
      refine lv_goto (tgt := 363) hx hb dX10_isName_359 (by decide) ?_
      exact pg_zret C hr hH hf dX10_isName_363
set_option maxHeartbeats 4000000 in
set_option maxRecDepth 100000 in
theorem wX10_isName_b340 {r : Int32} {h' : PH} (C : CT g RX10 cX10_isName 2 (Cond.code yX10_isName cX10_isName 2 (some .boolean) :: TB) p s m args meth c) (hr : meth.sig.returnType = some .boolean) {h : PH} {a0 : Nat} {H : Heap} {locs : List Loc} {ls : Array Slot} (hH : HS g s H locs h) (hf : mX10_isName_b340 h a0 = some (r, h')) (hl : lv_has ls 2 [(0, .ref (gB g + a0))]) : W p l e (rmD 1 0 0) s m args below meth c H locs 0 0 (MQ below (QcI g r h') args s 0 0 (aB g)) (F0 m 340 ls []) := by
  obtain ⟨⟨hx, hb, hml, hown, hts⟩, htb, hlk, hkk, hbs⟩ := id C
  unfold mX10_isName_b340 at hf
  refine lv_iconst (v := (1 : Int32)) hx hb dX10_isName_340 (by decide) ?_
  refine lv_goto (tgt := 345) hx hb dX10_isName_341 (by decide) ?_
  exact wX10_isName_b345 C hr hH hf (lv_sub hl [0] rfl)
set_option maxHeartbeats 4000000 in
set_option maxRecDepth 100000 in
theorem wX10_isName_b275 {r : Int32} {h' : PH} (C : CT g RX10 cX10_isName 2 (Cond.code yX10_isName cX10_isName 2 (some .boolean) :: TB) p s m args meth c) (hr : meth.sig.returnType = some .boolean) {h : PH} {a0 : Nat} {s0 : Int32} {H : Heap} {locs : List Loc} {ls : Array Slot} (hH : HS g s H locs h) (hf : mX10_isName_b275 h a0 s0 = some (r, h')) (hl : lv_has ls 2 [(0, .ref (gB g + a0))]) : W p l e (rmD 1 0 0) s m args below meth c H locs 0 0 (MQ below (QcI g r h') args s 0 0 (aB g)) (F0 m 275 ls [.int s0]) := by
  obtain ⟨⟨hx, hb, hml, hown, hts⟩, htb, hlk, hkk, hbs⟩ := id C
  unfold mX10_isName_b275 at hf
  refine lv_istore_n (lv' := [(1, .int s0), (0, .ref (gB g + a0))]) hx hb dX10_isName_275 rfl hl (by decide) rfl (fun ls hl => ?_)
  refine lv_iload_n hx hb dX10_isName_276 rfl (lv_at hl 0 rfl) ?_
  refine lv_if_ne (tgt := 340) hx hb dX10_isName_277 (by decide) (fun cn => ?_) (fun cn => ?_)
  · have hf := (if_neg cn).symm.trans hf
    exact wX10_isName_b340 C hr hH hf (lv_sub hl [1] rfl)
  · have hf := (if_pos cn).symm.trans hf
    refine lv_aload_n hx hb dX10_isName_280 rfl (lv_at hl 1 rfl) ?_
    refine lv_ldc2 (v := (215533 : Int64)) hx hb hown (hts _ (htb _ kl_X10_178)) dX10_isName_281 ?_
    refine pg_Vi (As := [.long (215533 : Int64)]) C hH mi_X10_is vl_X10_122 (q := (RX10, TX10, 34)) (ci := 10) rfl rfl hf (fun _ e1 => (oO_sp e1).1) (fun _ _ e1 => c_X10_is e1) rfl rfl hl.1 (Nat.le_of_ble_eq_true rfl) ⟨Nat.le_of_ble_eq_true rfl, Nat.le_of_ble_eq_true rfl⟩ ⟨Nat.zero_le _, Nat.zero_le _⟩ dX10_isName_284 (fun H locs v284 h284 hH hf => ?_)
    refine lv_if_ne (tgt := 340) hx hb dX10_isName_287 (by decide) (fun cn => ?_) (fun cn => ?_)
    · have hf := (if_neg cn).symm.trans hf
      exact wX10_isName_b340 C hr hH hf (lv_sub hl [1] rfl)
    · have hf := (if_pos cn).symm.trans hf
      refine lv_aload_n hx hb dX10_isName_290 rfl (lv_at hl 1 rfl) ?_
      refine lv_ldc2 (v := (398963 : Int64)) hx hb hown (hts _ (htb _ kl_X10_180)) dX10_isName_291 ?_
      refine pg_Vi (As := [.long (398963 : Int64)]) C hH mi_X10_is vl_X10_122 (q := (RX10, TX10, 34)) (ci := 10) rfl rfl hf (fun _ e1 => (oO_sp e1).1) (fun _ _ e1 => c_X10_is e1) rfl rfl hl.1 (Nat.le_of_ble_eq_true rfl) ⟨Nat.le_of_ble_eq_true rfl, Nat.le_of_ble_eq_true rfl⟩ ⟨Nat.zero_le _, Nat.zero_le _⟩ dX10_isName_294 (fun H locs v294 h294 hH hf => ?_)
      refine lv_if_ne (tgt := 340) hx hb dX10_isName_297 (by decide) (fun cn => ?_) (fun cn => ?_)
      · have hf := (if_neg cn).symm.trans hf
        exact wX10_isName_b340 C hr hH hf (lv_sub hl [1] rfl)
      · have hf := (if_pos cn).symm.trans hf
        refine lv_aload_n hx hb dX10_isName_300 rfl (lv_at hl 1 rfl) ?_
        refine lv_ldc2 (v := (463922 : Int64)) hx hb hown (hts _ (htb _ kl_X10_182)) dX10_isName_301 ?_
        refine pg_Vi (As := [.long (463922 : Int64)]) C hH mi_X10_is vl_X10_122 (q := (RX10, TX10, 34)) (ci := 10) rfl rfl hf (fun _ e1 => (oO_sp e1).1) (fun _ _ e1 => c_X10_is e1) rfl rfl hl.1 (Nat.le_of_ble_eq_true rfl) ⟨Nat.le_of_ble_eq_true rfl, Nat.le_of_ble_eq_true rfl⟩ ⟨Nat.zero_le _, Nat.zero_le _⟩ dX10_isName_304 (fun H locs v304 h304 hH hf => ?_)
        refine lv_if_ne (tgt := 340) hx hb dX10_isName_307 (by decide) (fun cn => ?_) (fun cn => ?_)
        · have hf := (if_neg cn).symm.trans hf
          exact wX10_isName_b340 C hr hH hf (lv_sub hl [1] rfl)
        · have hf := (if_pos cn).symm.trans hf
          refine lv_aload_n hx hb dX10_isName_310 rfl (lv_at hl 1 rfl) ?_
          refine lv_ldc2 (v := (781652471 : Int64)) hx hb hown (hts _ (htb _ kl_X10_184)) dX10_isName_311 ?_
          refine pg_Vi (As := [.long (781652471 : Int64)]) C hH mi_X10_is vl_X10_122 (q := (RX10, TX10, 34)) (ci := 10) rfl rfl hf (fun _ e1 => (oO_sp e1).1) (fun _ _ e1 => c_X10_is e1) rfl rfl hl.1 (Nat.le_of_ble_eq_true rfl) ⟨Nat.le_of_ble_eq_true rfl, Nat.le_of_ble_eq_true rfl⟩ ⟨Nat.zero_le _, Nat.zero_le _⟩ dX10_isName_314 (fun H locs v314 h314 hH hf => ?_)
          refine lv_if_ne (tgt := 340) hx hb dX10_isName_317 (by decide) (fun cn => ?_) (fun cn => ?_)
          · have hf := (if_neg cn).symm.trans hf
            exact wX10_isName_b340 C hr hH hf (lv_sub hl [1] rfl)
          · have hf := (if_pos cn).symm.trans hf
            refine lv_aload_n hx hb dX10_isName_320 rfl (lv_at hl 1 rfl) ?_
            refine lv_ldc2 (v := (437853486 : Int64)) hx hb hown (hts _ (htb _ kl_X10_186)) dX10_isName_321 ?_
            refine pg_Vi (As := [.long (437853486 : Int64)]) C hH mi_X10_is vl_X10_122 (q := (RX10, TX10, 34)) (ci := 10) rfl rfl hf (fun _ e1 => (oO_sp e1).1) (fun _ _ e1 => c_X10_is e1) rfl rfl hl.1 (Nat.le_of_ble_eq_true rfl) ⟨Nat.le_of_ble_eq_true rfl, Nat.le_of_ble_eq_true rfl⟩ ⟨Nat.zero_le _, Nat.zero_le _⟩ dX10_isName_324 (fun H locs v324 h324 hH hf => ?_)
            refine lv_if_ne (tgt := 340) hx hb dX10_isName_327 (by decide) (fun cn => ?_) (fun cn => ?_)
            · have hf := (if_neg cn).symm.trans hf
              exact wX10_isName_b340 C hr hH hf (lv_sub hl [1] rfl)
            · have hf := (if_pos cn).symm.trans hf
              refine lv_aload_n hx hb dX10_isName_330 rfl (lv_at hl 1 rfl) ?_
              refine lv_ldc2 (v := (153241 : Int64)) hx hb hown (hts _ (htb _ kl_X10_188)) dX10_isName_331 ?_
              refine pg_Vi (As := [.long (153241 : Int64)]) C hH mi_X10_is vl_X10_122 (q := (RX10, TX10, 34)) (ci := 10) rfl rfl hf (fun _ e1 => (oO_sp e1).1) (fun _ _ e1 => c_X10_is e1) rfl rfl hl.1 (Nat.le_of_ble_eq_true rfl) ⟨Nat.le_of_ble_eq_true rfl, Nat.le_of_ble_eq_true rfl⟩ ⟨Nat.zero_le _, Nat.zero_le _⟩ dX10_isName_334 (fun H locs v334 h334 hH hf => ?_)
              refine lv_if_eq (tgt := 344) hx hb dX10_isName_337 (by decide) (fun cn => ?_) (fun cn => ?_)
              · have hf := (if_pos cn).symm.trans hf
                refine lv_iconst (v := (0 : Int32)) hx hb dX10_isName_344 (by decide) ?_
                exact wX10_isName_b345 C hr hH hf (lv_sub hl [1] rfl)
              · have hf := (if_neg cn).symm.trans hf
                exact wX10_isName_b340 C hr hH hf (lv_sub hl [1] rfl)
set_option maxHeartbeats 4000000 in
set_option maxRecDepth 100000 in
theorem wX10_isName_b270 {r : Int32} {h' : PH} (C : CT g RX10 cX10_isName 2 (Cond.code yX10_isName cX10_isName 2 (some .boolean) :: TB) p s m args meth c) (hr : meth.sig.returnType = some .boolean) {h : PH} {a0 : Nat} {H : Heap} {locs : List Loc} {ls : Array Slot} (hH : HS g s H locs h) (hf : mX10_isName_b270 h a0 = some (r, h')) (hl : lv_has ls 2 [(0, .ref (gB g + a0))]) : W p l e (rmD 1 0 0) s m args below meth c H locs 0 0 (MQ below (QcI g r h') args s 0 0 (aB g)) (F0 m 270 ls []) := by
  obtain ⟨⟨hx, hb, hml, hown, hts⟩, htb, hlk, hkk, hbs⟩ := id C
  unfold mX10_isName_b270 at hf
  refine lv_iconst (v := (1 : Int32)) hx hb dX10_isName_270 (by decide) ?_
  refine lv_goto (tgt := 275) hx hb dX10_isName_271 (by decide) ?_
  exact wX10_isName_b275 C hr hH hf (lv_sub hl [0] rfl)
set_option maxHeartbeats 4000000 in
set_option maxRecDepth 100000 in
theorem wX10_isName_b205 {r : Int32} {h' : PH} (C : CT g RX10 cX10_isName 2 (Cond.code yX10_isName cX10_isName 2 (some .boolean) :: TB) p s m args meth c) (hr : meth.sig.returnType = some .boolean) {h : PH} {a0 : Nat} {s0 : Int32} {H : Heap} {locs : List Loc} {ls : Array Slot} (hH : HS g s H locs h) (hf : mX10_isName_b205 h a0 s0 = some (r, h')) (hl : lv_has ls 2 [(0, .ref (gB g + a0))]) : W p l e (rmD 1 0 0) s m args below meth c H locs 0 0 (MQ below (QcI g r h') args s 0 0 (aB g)) (F0 m 205 ls [.int s0]) := by
  obtain ⟨⟨hx, hb, hml, hown, hts⟩, htb, hlk, hkk, hbs⟩ := id C
  unfold mX10_isName_b205 at hf
  refine lv_istore_n (lv' := [(1, .int s0), (0, .ref (gB g + a0))]) hx hb dX10_isName_205 rfl hl (by decide) rfl (fun ls hl => ?_)
  refine lv_iload_n hx hb dX10_isName_206 rfl (lv_at hl 0 rfl) ?_
  refine lv_if_ne (tgt := 270) hx hb dX10_isName_207 (by decide) (fun cn => ?_) (fun cn => ?_)
  · have hf := (if_neg cn).symm.trans hf
    exact wX10_isName_b270 C hr hH hf (lv_sub hl [1] rfl)
  · have hf := (if_pos cn).symm.trans hf
    refine lv_aload_n hx hb dX10_isName_210 rfl (lv_at hl 1 rfl) ?_
    refine lv_ldc2 (v := (707763 : Int64)) hx hb hown (hts _ (htb _ kl_X10_166)) dX10_isName_211 ?_
    refine pg_Vi (As := [.long (707763 : Int64)]) C hH mi_X10_is vl_X10_122 (q := (RX10, TX10, 34)) (ci := 10) rfl rfl hf (fun _ e1 => (oO_sp e1).1) (fun _ _ e1 => c_X10_is e1) rfl rfl hl.1 (Nat.le_of_ble_eq_true rfl) ⟨Nat.le_of_ble_eq_true rfl, Nat.le_of_ble_eq_true rfl⟩ ⟨Nat.zero_le _, Nat.zero_le _⟩ dX10_isName_214 (fun H locs v214 h214 hH hf => ?_)
    refine lv_if_ne (tgt := 270) hx hb dX10_isName_217 (by decide) (fun cn => ?_) (fun cn => ?_)
    · have hf := (if_neg cn).symm.trans hf
      exact wX10_isName_b270 C hr hH hf (lv_sub hl [1] rfl)
    · have hf := (if_pos cn).symm.trans hf
      refine lv_aload_n hx hb dX10_isName_220 rfl (lv_at hl 1 rfl) ?_
      refine lv_ldc2 (v := (609860996 : Int64)) hx hb hown (hts _ (htb _ kl_X10_168)) dX10_isName_221 ?_
      refine pg_Vi (As := [.long (609860996 : Int64)]) C hH mi_X10_is vl_X10_122 (q := (RX10, TX10, 34)) (ci := 10) rfl rfl hf (fun _ e1 => (oO_sp e1).1) (fun _ _ e1 => c_X10_is e1) rfl rfl hl.1 (Nat.le_of_ble_eq_true rfl) ⟨Nat.le_of_ble_eq_true rfl, Nat.le_of_ble_eq_true rfl⟩ ⟨Nat.zero_le _, Nat.zero_le _⟩ dX10_isName_224 (fun H locs v224 h224 hH hf => ?_)
      refine lv_if_ne (tgt := 270) hx hb dX10_isName_227 (by decide) (fun cn => ?_) (fun cn => ?_)
      · have hf := (if_neg cn).symm.trans hf
        exact wX10_isName_b270 C hr hH hf (lv_sub hl [1] rfl)
      · have hf := (if_pos cn).symm.trans hf
        refine lv_aload_n hx hb dX10_isName_230 rfl (lv_at hl 1 rfl) ?_
        refine lv_ldc2 (v := (427141 : Int64)) hx hb hown (hts _ (htb _ kl_X10_170)) dX10_isName_231 ?_
        refine pg_Vi (As := [.long (427141 : Int64)]) C hH mi_X10_is vl_X10_122 (q := (RX10, TX10, 34)) (ci := 10) rfl rfl hf (fun _ e1 => (oO_sp e1).1) (fun _ _ e1 => c_X10_is e1) rfl rfl hl.1 (Nat.le_of_ble_eq_true rfl) ⟨Nat.le_of_ble_eq_true rfl, Nat.le_of_ble_eq_true rfl⟩ ⟨Nat.zero_le _, Nat.zero_le _⟩ dX10_isName_234 (fun H locs v234 h234 hH hf => ?_)
        refine lv_if_ne (tgt := 270) hx hb dX10_isName_237 (by decide) (fun cn => ?_) (fun cn => ?_)
        · have hf := (if_neg cn).symm.trans hf
          exact wX10_isName_b270 C hr hH hf (lv_sub hl [1] rfl)
        · have hf := (if_pos cn).symm.trans hf
          refine lv_aload_n hx hb dX10_isName_240 rfl (lv_at hl 1 rfl) ?_
          refine lv_ldc2 (v := (114292 : Int64)) hx hb hown (hts _ (htb _ kl_X10_172)) dX10_isName_241 ?_
          refine pg_Vi (As := [.long (114292 : Int64)]) C hH mi_X10_is vl_X10_122 (q := (RX10, TX10, 34)) (ci := 10) rfl rfl hf (fun _ e1 => (oO_sp e1).1) (fun _ _ e1 => c_X10_is e1) rfl rfl hl.1 (Nat.le_of_ble_eq_true rfl) ⟨Nat.le_of_ble_eq_true rfl, Nat.le_of_ble_eq_true rfl⟩ ⟨Nat.zero_le _, Nat.zero_le _⟩ dX10_isName_244 (fun H locs v244 h244 hH hf => ?_)
          refine lv_if_ne (tgt := 270) hx hb dX10_isName_247 (by decide) (fun cn => ?_) (fun cn => ?_)
          · have hf := (if_neg cn).symm.trans hf
            exact wX10_isName_b270 C hr hH hf (lv_sub hl [1] rfl)
          · have hf := (if_pos cn).symm.trans hf
            refine lv_aload_n hx hb dX10_isName_250 rfl (lv_at hl 1 rfl) ?_
            refine lv_ldc2 (v := (556243252 : Int64)) hx hb hown (hts _ (htb _ kl_X10_174)) dX10_isName_251 ?_
            refine pg_Vi (As := [.long (556243252 : Int64)]) C hH mi_X10_is vl_X10_122 (q := (RX10, TX10, 34)) (ci := 10) rfl rfl hf (fun _ e1 => (oO_sp e1).1) (fun _ _ e1 => c_X10_is e1) rfl rfl hl.1 (Nat.le_of_ble_eq_true rfl) ⟨Nat.le_of_ble_eq_true rfl, Nat.le_of_ble_eq_true rfl⟩ ⟨Nat.zero_le _, Nat.zero_le _⟩ dX10_isName_254 (fun H locs v254 h254 hH hf => ?_)
            refine lv_if_ne (tgt := 270) hx hb dX10_isName_257 (by decide) (fun cn => ?_) (fun cn => ?_)
            · have hf := (if_neg cn).symm.trans hf
              exact wX10_isName_b270 C hr hH hf (lv_sub hl [1] rfl)
            · have hf := (if_pos cn).symm.trans hf
              refine lv_aload_n hx hb dX10_isName_260 rfl (lv_at hl 1 rfl) ?_
              refine lv_ldc2 (v := (67012 : Int64)) hx hb hown (hts _ (htb _ kl_X10_176)) dX10_isName_261 ?_
              refine pg_Vi (As := [.long (67012 : Int64)]) C hH mi_X10_is vl_X10_122 (q := (RX10, TX10, 34)) (ci := 10) rfl rfl hf (fun _ e1 => (oO_sp e1).1) (fun _ _ e1 => c_X10_is e1) rfl rfl hl.1 (Nat.le_of_ble_eq_true rfl) ⟨Nat.le_of_ble_eq_true rfl, Nat.le_of_ble_eq_true rfl⟩ ⟨Nat.zero_le _, Nat.zero_le _⟩ dX10_isName_264 (fun H locs v264 h264 hH hf => ?_)
              refine lv_if_eq (tgt := 274) hx hb dX10_isName_267 (by decide) (fun cn => ?_) (fun cn => ?_)
              · have hf := (if_pos cn).symm.trans hf
                refine lv_iconst (v := (0 : Int32)) hx hb dX10_isName_274 (by decide) ?_
                exact wX10_isName_b275 C hr hH hf (lv_sub hl [1] rfl)
              · have hf := (if_neg cn).symm.trans hf
                exact wX10_isName_b270 C hr hH hf (lv_sub hl [1] rfl)
set_option maxHeartbeats 4000000 in
set_option maxRecDepth 100000 in
theorem wX10_isName_b200 {r : Int32} {h' : PH} (C : CT g RX10 cX10_isName 2 (Cond.code yX10_isName cX10_isName 2 (some .boolean) :: TB) p s m args meth c) (hr : meth.sig.returnType = some .boolean) {h : PH} {a0 : Nat} {H : Heap} {locs : List Loc} {ls : Array Slot} (hH : HS g s H locs h) (hf : mX10_isName_b200 h a0 = some (r, h')) (hl : lv_has ls 2 [(0, .ref (gB g + a0))]) : W p l e (rmD 1 0 0) s m args below meth c H locs 0 0 (MQ below (QcI g r h') args s 0 0 (aB g)) (F0 m 200 ls []) := by
  obtain ⟨⟨hx, hb, hml, hown, hts⟩, htb, hlk, hkk, hbs⟩ := id C
  unfold mX10_isName_b200 at hf
  refine lv_iconst (v := (1 : Int32)) hx hb dX10_isName_200 (by decide) ?_
  refine lv_goto (tgt := 205) hx hb dX10_isName_201 (by decide) ?_
  exact wX10_isName_b205 C hr hH hf (lv_sub hl [0] rfl)
set_option maxHeartbeats 4000000 in
set_option maxRecDepth 100000 in
theorem wX10_isName_b135 {r : Int32} {h' : PH} (C : CT g RX10 cX10_isName 2 (Cond.code yX10_isName cX10_isName 2 (some .boolean) :: TB) p s m args meth c) (hr : meth.sig.returnType = some .boolean) {h : PH} {a0 : Nat} {s0 : Int32} {H : Heap} {locs : List Loc} {ls : Array Slot} (hH : HS g s H locs h) (hf : mX10_isName_b135 h a0 s0 = some (r, h')) (hl : lv_has ls 2 [(0, .ref (gB g + a0))]) : W p l e (rmD 1 0 0) s m args below meth c H locs 0 0 (MQ below (QcI g r h') args s 0 0 (aB g)) (F0 m 135 ls [.int s0]) := by
  obtain ⟨⟨hx, hb, hml, hown, hts⟩, htb, hlk, hkk, hbs⟩ := id C
  unfold mX10_isName_b135 at hf
  refine lv_istore_n (lv' := [(1, .int s0), (0, .ref (gB g + a0))]) hx hb dX10_isName_135 rfl hl (by decide) rfl (fun ls hl => ?_)
  refine lv_iload_n hx hb dX10_isName_136 rfl (lv_at hl 0 rfl) ?_
  refine lv_if_ne (tgt := 200) hx hb dX10_isName_137 (by decide) (fun cn => ?_) (fun cn => ?_)
  · have hf := (if_neg cn).symm.trans hf
    exact wX10_isName_b200 C hr hH hf (lv_sub hl [1] rfl)
  · have hf := (if_pos cn).symm.trans hf
    refine lv_aload_n hx hb dX10_isName_140 rfl (lv_at hl 1 rfl) ?_
    refine lv_ldc2 (v := (4153 : Int64)) hx hb hown (hts _ (htb _ kl_X10_154)) dX10_isName_141 ?_
    refine pg_Vi (As := [.long (4153 : Int64)]) C hH mi_X10_is vl_X10_122 (q := (RX10, TX10, 34)) (ci := 10) rfl rfl hf (fun _ e1 => (oO_sp e1).1) (fun _ _ e1 => c_X10_is e1) rfl rfl hl.1 (Nat.le_of_ble_eq_true rfl) ⟨Nat.le_of_ble_eq_true rfl, Nat.le_of_ble_eq_true rfl⟩ ⟨Nat.zero_le _, Nat.zero_le _⟩ dX10_isName_144 (fun H locs v144 h144 hH hf => ?_)
    refine lv_if_ne (tgt := 200) hx hb dX10_isName_147 (by decide) (fun cn => ?_) (fun cn => ?_)
    · have hf := (if_neg cn).symm.trans hf
      exact wX10_isName_b200 C hr hH hf (lv_sub hl [1] rfl)
    · have hf := (if_pos cn).symm.trans hf
      refine lv_aload_n hx hb dX10_isName_150 rfl (lv_at hl 1 rfl) ?_
      refine lv_ldc2 (v := (2610628 : Int64)) hx hb hown (hts _ (htb _ kl_X10_156)) dX10_isName_151 ?_
      refine pg_Vi (As := [.long (2610628 : Int64)]) C hH mi_X10_is vl_X10_122 (q := (RX10, TX10, 34)) (ci := 10) rfl rfl hf (fun _ e1 => (oO_sp e1).1) (fun _ _ e1 => c_X10_is e1) rfl rfl hl.1 (Nat.le_of_ble_eq_true rfl) ⟨Nat.le_of_ble_eq_true rfl, Nat.le_of_ble_eq_true rfl⟩ ⟨Nat.zero_le _, Nat.zero_le _⟩ dX10_isName_154 (fun H locs v154 h154 hH hf => ?_)
      refine lv_if_ne (tgt := 200) hx hb dX10_isName_157 (by decide) (fun cn => ?_) (fun cn => ?_)
      · have hf := (if_neg cn).symm.trans hf
        exact wX10_isName_b200 C hr hH hf (lv_sub hl [1] rfl)
      · have hf := (if_pos cn).symm.trans hf
        refine lv_aload_n hx hb dX10_isName_160 rfl (lv_at hl 1 rfl) ?_
        refine lv_ldc2 (v := (19856929433 : Int64)) hx hb hown (hts _ (htb _ kl_X10_158)) dX10_isName_161 ?_
        refine pg_Vi (As := [.long (19856929433 : Int64)]) C hH mi_X10_is vl_X10_122 (q := (RX10, TX10, 34)) (ci := 10) rfl rfl hf (fun _ e1 => (oO_sp e1).1) (fun _ _ e1 => c_X10_is e1) rfl rfl hl.1 (Nat.le_of_ble_eq_true rfl) ⟨Nat.le_of_ble_eq_true rfl, Nat.le_of_ble_eq_true rfl⟩ ⟨Nat.zero_le _, Nat.zero_le _⟩ dX10_isName_164 (fun H locs v164 h164 hH hf => ?_)
        refine lv_if_ne (tgt := 200) hx hb dX10_isName_167 (by decide) (fun cn => ?_) (fun cn => ?_)
        · have hf := (if_neg cn).symm.trans hf
          exact wX10_isName_b200 C hr hH hf (lv_sub hl [1] rfl)
        · have hf := (if_pos cn).symm.trans hf
          refine lv_aload_n hx hb dX10_isName_170 rfl (lv_at hl 1 rfl) ?_
          refine lv_ldc2 (v := (6309 : Int64)) hx hb hown (hts _ (htb _ kl_X10_160)) dX10_isName_171 ?_
          refine pg_Vi (As := [.long (6309 : Int64)]) C hH mi_X10_is vl_X10_122 (q := (RX10, TX10, 34)) (ci := 10) rfl rfl hf (fun _ e1 => (oO_sp e1).1) (fun _ _ e1 => c_X10_is e1) rfl rfl hl.1 (Nat.le_of_ble_eq_true rfl) ⟨Nat.le_of_ble_eq_true rfl, Nat.le_of_ble_eq_true rfl⟩ ⟨Nat.zero_le _, Nat.zero_le _⟩ dX10_isName_174 (fun H locs v174 h174 hH hf => ?_)
          refine lv_if_ne (tgt := 200) hx hb dX10_isName_177 (by decide) (fun cn => ?_) (fun cn => ?_)
          · have hf := (if_neg cn).symm.trans hf
            exact wX10_isName_b200 C hr hH hf (lv_sub hl [1] rfl)
          · have hf := (if_pos cn).symm.trans hf
            refine lv_aload_n hx hb dX10_isName_180 rfl (lv_at hl 1 rfl) ?_
            refine lv_ldc2 (v := (17216939463 : Int64)) hx hb hown (hts _ (htb _ kl_X10_162)) dX10_isName_181 ?_
            refine pg_Vi (As := [.long (17216939463 : Int64)]) C hH mi_X10_is vl_X10_122 (q := (RX10, TX10, 34)) (ci := 10) rfl rfl hf (fun _ e1 => (oO_sp e1).1) (fun _ _ e1 => c_X10_is e1) rfl rfl hl.1 (Nat.le_of_ble_eq_true rfl) ⟨Nat.le_of_ble_eq_true rfl, Nat.le_of_ble_eq_true rfl⟩ ⟨Nat.zero_le _, Nat.zero_le _⟩ dX10_isName_184 (fun H locs v184 h184 hH hf => ?_)
            refine lv_if_ne (tgt := 200) hx hb dX10_isName_187 (by decide) (fun cn => ?_) (fun cn => ?_)
            · have hf := (if_neg cn).symm.trans hf
              exact wX10_isName_b200 C hr hH hf (lv_sub hl [1] rfl)
            · have hf := (if_pos cn).symm.trans hf
              refine lv_aload_n hx hb dX10_isName_190 rfl (lv_at hl 1 rfl) ?_
              refine lv_ldc2 (v := (7051975956 : Int64)) hx hb hown (hts _ (htb _ kl_X10_164)) dX10_isName_191 ?_
              refine pg_Vi (As := [.long (7051975956 : Int64)]) C hH mi_X10_is vl_X10_122 (q := (RX10, TX10, 34)) (ci := 10) rfl rfl hf (fun _ e1 => (oO_sp e1).1) (fun _ _ e1 => c_X10_is e1) rfl rfl hl.1 (Nat.le_of_ble_eq_true rfl) ⟨Nat.le_of_ble_eq_true rfl, Nat.le_of_ble_eq_true rfl⟩ ⟨Nat.zero_le _, Nat.zero_le _⟩ dX10_isName_194 (fun H locs v194 h194 hH hf => ?_)
              refine lv_if_eq (tgt := 204) hx hb dX10_isName_197 (by decide) (fun cn => ?_) (fun cn => ?_)
              · have hf := (if_pos cn).symm.trans hf
                refine lv_iconst (v := (0 : Int32)) hx hb dX10_isName_204 (by decide) ?_
                exact wX10_isName_b205 C hr hH hf (lv_sub hl [1] rfl)
              · have hf := (if_neg cn).symm.trans hf
                exact wX10_isName_b200 C hr hH hf (lv_sub hl [1] rfl)
set_option maxHeartbeats 4000000 in
set_option maxRecDepth 100000 in
theorem wX10_isName_b130 {r : Int32} {h' : PH} (C : CT g RX10 cX10_isName 2 (Cond.code yX10_isName cX10_isName 2 (some .boolean) :: TB) p s m args meth c) (hr : meth.sig.returnType = some .boolean) {h : PH} {a0 : Nat} {H : Heap} {locs : List Loc} {ls : Array Slot} (hH : HS g s H locs h) (hf : mX10_isName_b130 h a0 = some (r, h')) (hl : lv_has ls 2 [(0, .ref (gB g + a0))]) : W p l e (rmD 1 0 0) s m args below meth c H locs 0 0 (MQ below (QcI g r h') args s 0 0 (aB g)) (F0 m 130 ls []) := by
  obtain ⟨⟨hx, hb, hml, hown, hts⟩, htb, hlk, hkk, hbs⟩ := id C
  unfold mX10_isName_b130 at hf
  refine lv_iconst (v := (1 : Int32)) hx hb dX10_isName_130 (by decide) ?_
  refine lv_goto (tgt := 135) hx hb dX10_isName_131 (by decide) ?_
  exact wX10_isName_b135 C hr hH hf (lv_sub hl [0] rfl)
set_option maxHeartbeats 4000000 in
set_option maxRecDepth 100000 in
theorem wX10_isName_b65 {r : Int32} {h' : PH} (C : CT g RX10 cX10_isName 2 (Cond.code yX10_isName cX10_isName 2 (some .boolean) :: TB) p s m args meth c) (hr : meth.sig.returnType = some .boolean) {h : PH} {a0 : Nat} {s0 : Int32} {H : Heap} {locs : List Loc} {ls : Array Slot} (hH : HS g s H locs h) (hf : mX10_isName_b65 h a0 s0 = some (r, h')) (hl : lv_has ls 2 [(0, .ref (gB g + a0))]) : W p l e (rmD 1 0 0) s m args below meth c H locs 0 0 (MQ below (QcI g r h') args s 0 0 (aB g)) (F0 m 65 ls [.int s0]) := by
  obtain ⟨⟨hx, hb, hml, hown, hts⟩, htb, hlk, hkk, hbs⟩ := id C
  unfold mX10_isName_b65 at hf
  refine lv_istore_n (lv' := [(1, .int s0), (0, .ref (gB g + a0))]) hx hb dX10_isName_65 rfl hl (by decide) rfl (fun ls hl => ?_)
  refine lv_iload_n hx hb dX10_isName_66 rfl (lv_at hl 0 rfl) ?_
  refine lv_if_ne (tgt := 130) hx hb dX10_isName_67 (by decide) (fun cn => ?_) (fun cn => ?_)
  · have hf := (if_neg cn).symm.trans hf
    exact wX10_isName_b130 C hr hH hf (lv_sub hl [1] rfl)
  · have hf := (if_pos cn).symm.trans hf
    refine lv_aload_n hx hb dX10_isName_70 rfl (lv_at hl 1 rfl) ?_
    refine lv_ldc2 (v := (24627848 : Int64)) hx hb hown (hts _ (htb _ kl_X10_142)) dX10_isName_71 ?_
    refine pg_Vi (As := [.long (24627848 : Int64)]) C hH mi_X10_is vl_X10_122 (q := (RX10, TX10, 34)) (ci := 10) rfl rfl hf (fun _ e1 => (oO_sp e1).1) (fun _ _ e1 => c_X10_is e1) rfl rfl hl.1 (Nat.le_of_ble_eq_true rfl) ⟨Nat.le_of_ble_eq_true rfl, Nat.le_of_ble_eq_true rfl⟩ ⟨Nat.zero_le _, Nat.zero_le _⟩ dX10_isName_74 (fun H locs v74 h74 hH hf => ?_)
    refine lv_if_ne (tgt := 130) hx hb dX10_isName_77 (by decide) (fun cn => ?_) (fun cn => ?_)
    · have hf := (if_neg cn).symm.trans hf
      exact wX10_isName_b130 C hr hH hf (lv_sub hl [1] rfl)
    · have hf := (if_pos cn).symm.trans hf
      refine lv_aload_n hx hb dX10_isName_80 rfl (lv_at hl 1 rfl) ?_
      refine lv_ldc2 (v := (6605428 : Int64)) hx hb hown (hts _ (htb _ kl_X10_144)) dX10_isName_81 ?_
      refine pg_Vi (As := [.long (6605428 : Int64)]) C hH mi_X10_is vl_X10_122 (q := (RX10, TX10, 34)) (ci := 10) rfl rfl hf (fun _ e1 => (oO_sp e1).1) (fun _ _ e1 => c_X10_is e1) rfl rfl hl.1 (Nat.le_of_ble_eq_true rfl) ⟨Nat.le_of_ble_eq_true rfl, Nat.le_of_ble_eq_true rfl⟩ ⟨Nat.zero_le _, Nat.zero_le _⟩ dX10_isName_84 (fun H locs v84 h84 hH hf => ?_)
      refine lv_if_ne (tgt := 130) hx hb dX10_isName_87 (by decide) (fun cn => ?_) (fun cn => ?_)
      · have hf := (if_neg cn).symm.trans hf
        exact wX10_isName_b130 C hr hH hf (lv_sub hl [1] rfl)
      · have hf := (if_pos cn).symm.trans hf
        refine lv_aload_n hx hb dX10_isName_90 rfl (lv_at hl 1 rfl) ?_
        refine lv_ldc2 (v := (89 : Int64)) hx hb hown (hts _ (htb _ kl_X10_146)) dX10_isName_91 ?_
        refine pg_Vi (As := [.long (89 : Int64)]) C hH mi_X10_is vl_X10_122 (q := (RX10, TX10, 34)) (ci := 10) rfl rfl hf (fun _ e1 => (oO_sp e1).1) (fun _ _ e1 => c_X10_is e1) rfl rfl hl.1 (Nat.le_of_ble_eq_true rfl) ⟨Nat.le_of_ble_eq_true rfl, Nat.le_of_ble_eq_true rfl⟩ ⟨Nat.zero_le _, Nat.zero_le _⟩ dX10_isName_94 (fun H locs v94 h94 hH hf => ?_)
        refine lv_if_ne (tgt := 130) hx hb dX10_isName_97 (by decide) (fun cn => ?_) (fun cn => ?_)
        · have hf := (if_neg cn).symm.trans hf
          exact wX10_isName_b130 C hr hH hf (lv_sub hl [1] rfl)
        · have hf := (if_pos cn).symm.trans hf
          refine lv_aload_n hx hb dX10_isName_100 rfl (lv_at hl 1 rfl) ?_
          refine lv_ldc2 (v := (624005 : Int64)) hx hb hown (hts _ (htb _ kl_X10_148)) dX10_isName_101 ?_
          refine pg_Vi (As := [.long (624005 : Int64)]) C hH mi_X10_is vl_X10_122 (q := (RX10, TX10, 34)) (ci := 10) rfl rfl hf (fun _ e1 => (oO_sp e1).1) (fun _ _ e1 => c_X10_is e1) rfl rfl hl.1 (Nat.le_of_ble_eq_true rfl) ⟨Nat.le_of_ble_eq_true rfl, Nat.le_of_ble_eq_true rfl⟩ ⟨Nat.zero_le _, Nat.zero_le _⟩ dX10_isName_104 (fun H locs v104 h104 hH hf => ?_)
          refine lv_if_ne (tgt := 130) hx hb dX10_isName_107 (by decide) (fun cn => ?_) (fun cn => ?_)
          · have hf := (if_neg cn).symm.trans hf
            exact wX10_isName_b130 C hr hH hf (lv_sub hl [1] rfl)
          · have hf := (if_pos cn).symm.trans hf
            refine lv_aload_n hx hb dX10_isName_110 rfl (lv_at hl 1 rfl) ?_
            refine lv_ldc2 (v := (546475187 : Int64)) hx hb hown (hts _ (htb _ kl_X10_150)) dX10_isName_111 ?_
            refine pg_Vi (As := [.long (546475187 : Int64)]) C hH mi_X10_is vl_X10_122 (q := (RX10, TX10, 34)) (ci := 10) rfl rfl hf (fun _ e1 => (oO_sp e1).1) (fun _ _ e1 => c_X10_is e1) rfl rfl hl.1 (Nat.le_of_ble_eq_true rfl) ⟨Nat.le_of_ble_eq_true rfl, Nat.le_of_ble_eq_true rfl⟩ ⟨Nat.zero_le _, Nat.zero_le _⟩ dX10_isName_114 (fun H locs v114 h114 hH hf => ?_)
            refine lv_if_ne (tgt := 130) hx hb dX10_isName_117 (by decide) (fun cn => ?_) (fun cn => ?_)
            · have hf := (if_neg cn).symm.trans hf
              exact wX10_isName_b130 C hr hH hf (lv_sub hl [1] rfl)
            · have hf := (if_pos cn).symm.trans hf
              refine lv_aload_n hx hb dX10_isName_120 rfl (lv_at hl 1 rfl) ?_
              refine lv_ldc2 (v := (17376357 : Int64)) hx hb hown (hts _ (htb _ kl_X10_152)) dX10_isName_121 ?_
              refine pg_Vi (As := [.long (17376357 : Int64)]) C hH mi_X10_is vl_X10_122 (q := (RX10, TX10, 34)) (ci := 10) rfl rfl hf (fun _ e1 => (oO_sp e1).1) (fun _ _ e1 => c_X10_is e1) rfl rfl hl.1 (Nat.le_of_ble_eq_true rfl) ⟨Nat.le_of_ble_eq_true rfl, Nat.le_of_ble_eq_true rfl⟩ ⟨Nat.zero_le _, Nat.zero_le _⟩ dX10_isName_124 (fun H locs v124 h124 hH hf => ?_)
              refine lv_if_eq (tgt := 134) hx hb dX10_isName_127 (by decide) (fun cn => ?_) (fun cn => ?_)
              · have hf := (if_pos cn).symm.trans hf
                refine lv_iconst (v := (0 : Int32)) hx hb dX10_isName_134 (by decide) ?_
                exact wX10_isName_b135 C hr hH hf (lv_sub hl [1] rfl)
              · have hf := (if_neg cn).symm.trans hf
                exact wX10_isName_b130 C hr hH hf (lv_sub hl [1] rfl)
set_option maxHeartbeats 4000000 in
set_option maxRecDepth 100000 in
theorem wX10_isName_b60 {r : Int32} {h' : PH} (C : CT g RX10 cX10_isName 2 (Cond.code yX10_isName cX10_isName 2 (some .boolean) :: TB) p s m args meth c) (hr : meth.sig.returnType = some .boolean) {h : PH} {a0 : Nat} {H : Heap} {locs : List Loc} {ls : Array Slot} (hH : HS g s H locs h) (hf : mX10_isName_b60 h a0 = some (r, h')) (hl : lv_has ls 2 [(0, .ref (gB g + a0))]) : W p l e (rmD 1 0 0) s m args below meth c H locs 0 0 (MQ below (QcI g r h') args s 0 0 (aB g)) (F0 m 60 ls []) := by
  obtain ⟨⟨hx, hb, hml, hown, hts⟩, htb, hlk, hkk, hbs⟩ := id C
  unfold mX10_isName_b60 at hf
  refine lv_iconst (v := (1 : Int32)) hx hb dX10_isName_60 (by decide) ?_
  refine lv_goto (tgt := 65) hx hb dX10_isName_61 (by decide) ?_
  exact wX10_isName_b65 C hr hH hf (lv_sub hl [0] rfl)
set_option maxHeartbeats 4000000 in
set_option maxRecDepth 100000 in
theorem c_X10_isName {l : Launch} {g : GD} {h : PH} {a0 : Nat} {r : Int32} {h' : PH} (hf : mX10_isName h a0 = some (r, h')) : Met l yX10_isName (Cond.code yX10_isName cX10_isName 2 (some .boolean) :: TB) (rmD 1 0 0) (PcH g [.ref (gB g + a0)] h) (QcI g r h') 0 0 (aB g) := by
  refine Met.ofW (cc := cX10_isName) (maxL := 2) (ret := some .boolean) (by decide) rfl ?_
  intro p e s m args below meth c s₁ B hml hv
  obtain ⟨rfl, hH0, hkk0⟩ := hv
  have C : CT g RX10 cX10_isName 2 (Cond.code yX10_isName cX10_isName 2 (some .boolean) :: TB) p s m _ meth c := pg_ct (Tw := []) B hml hH0 hkk0
  have hr := B.returns
  have hH : HS g s s.heap [] h := ⟨hH0, va_S.rf⟩
  have hl := lv_entry ([.ref (gB g + a0)]) (n := 2) (Nat.le_of_ble_eq_true rfl)
  rw [lg_entry_eq]
  generalize (lg_sl ([.ref (gB g + a0)]) ++ List.replicate (2 - (lg_sl ([.ref (gB g + a0)])).length) Slot.unset).toArray = ls at hl ⊢
  have hl : lv_has ls 2 [(0, .ref (gB g + a0))] := hl
  show W p l e (rmD 1 0 0) _ _ _ _ _ _ _ _ _ _ _ _
  unfold mX10_isName at hf
  obtain ⟨hO, hf⟩ := oO_sp hf
  obtain ⟨⟨hx, hb, hml, hown, hts⟩, htb, hlk, hkk, hbs⟩ := id C
  refine lv_aload_n hx hb dX10_isName_0 rfl (lv_at hl 0 rfl) ?_
  refine lv_ldc2 (v := (16829081 : Int64)) hx hb hown (hts _ (htb _ kl_X10_130)) dX10_isName_1 ?_
  refine pg_Vi (As := [.long (16829081 : Int64)]) C hH mi_X10_is vl_X10_122 (q := (RX10, TX10, 34)) (ci := 10) rfl rfl hf (fun _ e1 => (oO_sp e1).1) (fun _ _ e1 => c_X10_is e1) rfl rfl hl.1 (Nat.le_of_ble_eq_true rfl) ⟨Nat.le_of_ble_eq_true rfl, Nat.le_of_ble_eq_true rfl⟩ ⟨Nat.zero_le _, Nat.zero_le _⟩ dX10_isName_4 (fun H locs v4 h4 hH hf => ?_)
  refine lv_if_ne (tgt := 60) hx hb dX10_isName_7 (by decide) (fun cn => ?_) (fun cn => ?_)
  · have hf := (if_neg cn).symm.trans hf
    exact wX10_isName_b60 C hr hH hf (lv_sub hl [0] rfl)
  · have hf := (if_pos cn).symm.trans hf
    refine lv_aload_n hx hb dX10_isName_10 rfl (lv_at hl 0 rfl) ?_
    refine lv_ldc2 (v := (11566 : Int64)) hx hb hown (hts _ (htb _ kl_X10_132)) dX10_isName_11 ?_
    refine pg_Vi (As := [.long (11566 : Int64)]) C hH mi_X10_is vl_X10_122 (q := (RX10, TX10, 34)) (ci := 10) rfl rfl hf (fun _ e1 => (oO_sp e1).1) (fun _ _ e1 => c_X10_is e1) rfl rfl hl.1 (Nat.le_of_ble_eq_true rfl) ⟨Nat.le_of_ble_eq_true rfl, Nat.le_of_ble_eq_true rfl⟩ ⟨Nat.zero_le _, Nat.zero_le _⟩ dX10_isName_14 (fun H locs v14 h14 hH hf => ?_)
    refine lv_if_ne (tgt := 60) hx hb dX10_isName_17 (by decide) (fun cn => ?_) (fun cn => ?_)
    · have hf := (if_neg cn).symm.trans hf
      exact wX10_isName_b60 C hr hH hf (lv_sub hl [0] rfl)
    · have hf := (if_pos cn).symm.trans hf
      refine lv_aload_n hx hb dX10_isName_20 rfl (lv_at hl 0 rfl) ?_
      refine lv_ldc2 (v := (245220 : Int64)) hx hb hown (hts _ (htb _ kl_X10_134)) dX10_isName_21 ?_
      refine pg_Vi (As := [.long (245220 : Int64)]) C hH mi_X10_is vl_X10_122 (q := (RX10, TX10, 34)) (ci := 10) rfl rfl hf (fun _ e1 => (oO_sp e1).1) (fun _ _ e1 => c_X10_is e1) rfl rfl hl.1 (Nat.le_of_ble_eq_true rfl) ⟨Nat.le_of_ble_eq_true rfl, Nat.le_of_ble_eq_true rfl⟩ ⟨Nat.zero_le _, Nat.zero_le _⟩ dX10_isName_24 (fun H locs v24 h24 hH hf => ?_)
      refine lv_if_ne (tgt := 60) hx hb dX10_isName_27 (by decide) (fun cn => ?_) (fun cn => ?_)
      · have hf := (if_neg cn).symm.trans hf
        exact wX10_isName_b60 C hr hH hf (lv_sub hl [0] rfl)
      · have hf := (if_pos cn).symm.trans hf
        refine lv_aload_n hx hb dX10_isName_30 rfl (lv_at hl 0 rfl) ?_
        refine lv_ldc2 (v := (7945904 : Int64)) hx hb hown (hts _ (htb _ kl_X10_136)) dX10_isName_31 ?_
        refine pg_Vi (As := [.long (7945904 : Int64)]) C hH mi_X10_is vl_X10_122 (q := (RX10, TX10, 34)) (ci := 10) rfl rfl hf (fun _ e1 => (oO_sp e1).1) (fun _ _ e1 => c_X10_is e1) rfl rfl hl.1 (Nat.le_of_ble_eq_true rfl) ⟨Nat.le_of_ble_eq_true rfl, Nat.le_of_ble_eq_true rfl⟩ ⟨Nat.zero_le _, Nat.zero_le _⟩ dX10_isName_34 (fun H locs v34 h34 hH hf => ?_)
        refine lv_if_ne (tgt := 60) hx hb dX10_isName_37 (by decide) (fun cn => ?_) (fun cn => ?_)
        · have hf := (if_neg cn).symm.trans hf
          exact wX10_isName_b60 C hr hH hf (lv_sub hl [0] rfl)
        · have hf := (if_pos cn).symm.trans hf
          refine lv_aload_n hx hb dX10_isName_40 rfl (lv_at hl 0 rfl) ?_
          refine lv_ldc2 (v := (394692 : Int64)) hx hb hown (hts _ (htb _ kl_X10_138)) dX10_isName_41 ?_
          refine pg_Vi (As := [.long (394692 : Int64)]) C hH mi_X10_is vl_X10_122 (q := (RX10, TX10, 34)) (ci := 10) rfl rfl hf (fun _ e1 => (oO_sp e1).1) (fun _ _ e1 => c_X10_is e1) rfl rfl hl.1 (Nat.le_of_ble_eq_true rfl) ⟨Nat.le_of_ble_eq_true rfl, Nat.le_of_ble_eq_true rfl⟩ ⟨Nat.zero_le _, Nat.zero_le _⟩ dX10_isName_44 (fun H locs v44 h44 hH hf => ?_)
          refine lv_if_ne (tgt := 60) hx hb dX10_isName_47 (by decide) (fun cn => ?_) (fun cn => ?_)
          · have hf := (if_neg cn).symm.trans hf
            exact wX10_isName_b60 C hr hH hf (lv_sub hl [0] rfl)
          · have hf := (if_pos cn).symm.trans hf
            refine lv_aload_n hx hb dX10_isName_50 rfl (lv_at hl 0 rfl) ?_
            refine lv_ldc2 (v := (54109812 : Int64)) hx hb hown (hts _ (htb _ kl_X10_140)) dX10_isName_51 ?_
            refine pg_Vi (As := [.long (54109812 : Int64)]) C hH mi_X10_is vl_X10_122 (q := (RX10, TX10, 34)) (ci := 10) rfl rfl hf (fun _ e1 => (oO_sp e1).1) (fun _ _ e1 => c_X10_is e1) rfl rfl hl.1 (Nat.le_of_ble_eq_true rfl) ⟨Nat.le_of_ble_eq_true rfl, Nat.le_of_ble_eq_true rfl⟩ ⟨Nat.zero_le _, Nat.zero_le _⟩ dX10_isName_54 (fun H locs v54 h54 hH hf => ?_)
            refine lv_if_eq (tgt := 64) hx hb dX10_isName_57 (by decide) (fun cn => ?_) (fun cn => ?_)
            · have hf := (if_pos cn).symm.trans hf
              refine lv_iconst (v := (0 : Int32)) hx hb dX10_isName_64 (by decide) ?_
              exact wX10_isName_b65 C hr hH hf (lv_sub hl [0] rfl)
            · have hf := (if_neg cn).symm.trans hf
              exact wX10_isName_b60 C hr hH hf (lv_sub hl [0] rfl)
set_option maxHeartbeats 4000000 in
set_option maxRecDepth 100000 in
theorem wX10_name_b15 {r15 : PH → Nat → Int32 → Int32 → Option (Int32 × PH)} {r : Int32} {h' : PH} (C : CT g RX10 cX10_name 3 (Cond.code yX10_name cX10_name 3 (some .boolean) :: TB) p s m args meth c) (hr : meth.sig.returnType = some .boolean) (k15 : ∀ {h : PH} {a0 : Nat} {x1 : Int32} {x2 : Int32} {H : Heap} {locs : List Loc} {ls : Array Slot}, HS g s H locs h → r15 h a0 x1 x2 = some (r, h') → lv_has ls 3 [(0, .ref (gB g + a0)), (1, .int x1), (2, .int x2)] → W p l e (rmD 2 0 0) s m args below meth c H locs 0 0 (MQ below (QcI g r h') args s 0 0 (aB g)) (F0 m 15 ls [])) {h : PH} {a0 : Nat} {x1 : Int32} {x2 : Int32} {H : Heap} {locs : List Loc} {ls : Array Slot} (hH : HS g s H locs h) (hf : mX10_name_b15 r15 h a0 x1 x2 = some (r, h')) (hl : lv_has ls 3 [(0, .ref (gB g + a0)), (1, .int x1), (2, .int x2)]) : W p l e (rmD 2 0 0) s m args below meth c H locs 0 0 (MQ below (QcI g r h') args s 0 0 (aB g)) (F0 m 15 ls []) := by
  obtain ⟨⟨hx, hb, hml, hown, hts⟩, htb, hlk, hkk, hbs⟩ := id C
  unfold mX10_name_b15 at hf
  refine lv_iload_n hx hb dX10_name_15 rfl (lv_at hl 2 rfl) ?_
  refine lv_aload_n hx hb dX10_name_16 rfl (lv_at hl 0 rfl) ?_
  refine pg_gI C hH fl_X10_194 hf dX10_name_17 (fun v17 hf => ?_)
  refine lv_icmp_ge (tgt := 49) hx hb dX10_name_20 (by decide) (fun cn => ?_) (fun cn => ?_)
  · have hf := (if_pos cn).symm.trans hf
    refine lv_aload_n hx hb dX10_name_49 rfl (lv_at hl 0 rfl) ?_
    refine pg_gR C hH fl_X10_34 hf dX10_name_50 (fun v50 hf => ?_)
    refine lv_aload_n hx hb dX10_name_53 rfl (lv_at hl 0 rfl) ?_
    refine pg_gI C hH fl_X10_194 hf dX10_name_54 (fun v54 hf => ?_)
    refine lv_aload_n hx hb dX10_name_57 rfl (lv_at hl 0 rfl) ?_
    refine pg_gL C hH fl_X10_86 hf dX10_name_58 (fun v58 hf => ?_)
    refine pg_sL C hH hf dX10_name_61 (fun H locs h61 hH hf => ?_)
    refine lv_aload_n hx hb dX10_name_62 rfl (lv_at hl 0 rfl) ?_
    refine pg_gR C hH fl_X10_38 hf dX10_name_63 (fun v63 hf => ?_)
    refine lv_aload_n hx hb dX10_name_66 rfl (lv_at hl 0 rfl) ?_
    refine pg_gI C hH fl_X10_194 hf dX10_name_67 (fun v67 hf => ?_)
    refine lv_iload_n hx hb dX10_name_70 rfl (lv_at hl 1 rfl) ?_
    refine pg_sI C hH hf dX10_name_71 (fun H locs h71 hH hf => ?_)
    refine lv_aload_n hx hb dX10_name_72 rfl (lv_at hl 0 rfl) ?_
    refine pg_gR C hH fl_X10_41 hf dX10_name_73 (fun v73 hf => ?_)
    refine lv_aload_n hx hb dX10_name_76 rfl (lv_at hl 0 rfl) ?_
    refine pg_gI C hH fl_X10_194 hf dX10_name_77 (fun v77 hf => ?_)
    refine lv_aload_n hx hb dX10_name_80 rfl (lv_at hl 0 rfl) ?_
    refine pg_gR C hH fl_X10_17 hf dX10_name_81 (fun v81 hf => ?_)
    refine lv_iload_n hx hb dX10_name_84 rfl (lv_at hl 1 rfl) ?_
    refine pg_aI C hH hf dX10_name_85 (fun v85 hf => ?_)
    refine pg_sI C hH hf dX10_name_86 (fun H locs h86 hH hf => ?_)
    refine lv_aload_n hx hb dX10_name_87 rfl (lv_at hl 0 rfl) ?_
    refine lv_dup hx hb dX10_name_88 rfl ?_
    refine pg_gI C hH fl_X10_194 hf dX10_name_89 (fun v89 hf => ?_)
    refine lv_iconst (v := (1 : Int32)) hx hb dX10_name_92 (by decide) ?_
    refine lv_iadd hx hb dX10_name_93 ?_
    refine pg_pI C hH fl_X10_194 fm_10_20 hf dX10_name_94 (fun H locs h94 hH hf => ?_)
    refine lv_aload_n hx hb dX10_name_97 rfl (lv_at hl 0 rfl) ?_
    refine pg_Vv (As := []) C hH mi_X10_go vl_X10_119 (q := (RX10, TX10, 34)) (ci := 10) rfl rfl hf (fun _ e1 => (oO_sp e1).1) (fun _ e1 => c_X10_go e1) rfl rfl hl.1 (Nat.le_of_ble_eq_true rfl) ⟨Nat.le_of_ble_eq_true rfl, Nat.le_of_ble_eq_true rfl⟩ ⟨Nat.zero_le _, Nat.zero_le _⟩ dX10_name_98 (fun H locs h98 hH hf => ?_)
    refine lv_iconst (v := (1 : Int32)) hx hb dX10_name_101 (by decide) ?_
    exact pg_zret C hr hH hf dX10_name_102
  · have hf := (if_neg cn).symm.trans hf
    refine lv_aload_n hx hb dX10_name_23 rfl (lv_at hl 0 rfl) ?_
    refine pg_gR C hH fl_X10_34 hf dX10_name_24 (fun v24 hf => ?_)
    refine lv_iload_n hx hb dX10_name_27 rfl (lv_at hl 2 rfl) ?_
    refine pg_aL C hH hf dX10_name_28 (fun v28 hf => ?_)
    refine lv_aload_n hx hb dX10_name_29 rfl (lv_at hl 0 rfl) ?_
    refine pg_gL C hH fl_X10_86 hf dX10_name_30 (fun v30 hf => ?_)
    refine W.lcmp hx hb dX10_name_33 ?_
    refine lv_if_ne (tgt := 43) hx hb dX10_name_34 (by decide) (fun cn => ?_) (fun cn => ?_)
    · have hf := (if_neg (fun z => cn ((lg_cmp_eq _ _).mpr z))).symm.trans hf
      refine lv_iinc (v := (x2 + 1)) (lv' := [(2, .int (x2 + 1)), (0, .ref (gB g + a0)), (1, .int x1)]) hx hb dX10_name_43 hl (k := 2) rfl rfl (by decide) rfl (fun ls hl => ?_)
      refine lv_goto (tgt := 15) hx hb dX10_name_46 (by decide) ?_
      exact k15 hH hf (lv_sub hl [1, 2, 0] rfl)
    · have hf := (if_pos ((lg_cmp_eq _ _).mp cn)).symm.trans hf
      refine lv_aload_n hx hb dX10_name_37 rfl (lv_at hl 0 rfl) ?_
      refine lv_iconst (v := (2 : Int32)) hx hb dX10_name_38 (by decide) ?_
      refine pg_Vi (As := [.int (2 : Int32)]) C hH mi_X10_bad vl_X10_112 (q := (RX10, TX10, 34)) (ci := 10) rfl rfl hf (fun _ e1 => (oO_sp e1).1) (fun _ _ e1 => c_X10_bad e1) rfl rfl hl.1 (Nat.le_of_ble_eq_true rfl) ⟨Nat.le_of_ble_eq_true rfl, Nat.le_of_ble_eq_true rfl⟩ ⟨Nat.zero_le _, Nat.zero_le _⟩ dX10_name_39 (fun H locs v39 h39 hH hf => ?_)
      exact pg_zret C hr hH hf dX10_name_42
set_option maxHeartbeats 4000000 in
set_option maxRecDepth 100000 in
theorem wX10_name_L15 {r : Int32} {h' : PH} (C : CT g RX10 cX10_name 3 (Cond.code yX10_name cX10_name 3 (some .boolean) :: TB) p s m args meth c) (hr : meth.sig.returnType = some .boolean) : ∀ (n : Nat) {h : PH} {a0 : Nat} {x1 : Int32} {x2 : Int32} {H : Heap} {locs : List Loc} {ls : Array Slot}, HS g s H locs h → mX10_name_L15 n h a0 x1 x2 = some (r, h') → lv_has ls 3 [(0, .ref (gB g + a0)), (1, .int x1), (2, .int x2)] → W p l e (rmD 2 0 0) s m args below meth c H locs 0 0 (MQ below (QcI g r h') args s 0 0 (aB g)) (F0 m 15 ls []) := by
  intro n
  induction n with
  | zero =>
    intro h a0 x1 x2 H locs ls hH hf hl
    exact absurd hf (by intro z; cases z)
  | succ n ih =>
    intro h a0 x1 x2 H locs ls hH hf hl
    have hf : mX10_name_b15 (mX10_name_L15 n) h a0 x1 x2 = some (r, h') := hf
    exact wX10_name_b15 C hr (fun a b c => ih a b c) hH hf hl
set_option maxHeartbeats 4000000 in
set_option maxRecDepth 100000 in
theorem c_X10_name {l : Launch} {g : GD} {h : PH} {a0 : Nat} {x1 : Int32} {r : Int32} {h' : PH} (hf : mX10_name h a0 x1 = some (r, h')) : Met l yX10_name (Cond.code yX10_name cX10_name 3 (some .boolean) :: TB) (rmD 2 0 0) (PcH g [.ref (gB g + a0), .int x1] h) (QcI g r h') 0 0 (aB g) := by
  refine Met.ofW (cc := cX10_name) (maxL := 3) (ret := some .boolean) (by decide) rfl ?_
  intro p e s m args below meth c s₁ B hml hv
  obtain ⟨rfl, hH0, hkk0⟩ := hv
  have C : CT g RX10 cX10_name 3 (Cond.code yX10_name cX10_name 3 (some .boolean) :: TB) p s m _ meth c := pg_ct (Tw := []) B hml hH0 hkk0
  have hr := B.returns
  have hH : HS g s s.heap [] h := ⟨hH0, va_S.rf⟩
  have hl := lv_entry ([.ref (gB g + a0), .int x1]) (n := 3) (Nat.le_of_ble_eq_true rfl)
  rw [lg_entry_eq]
  generalize (lg_sl ([.ref (gB g + a0), .int x1]) ++ List.replicate (3 - (lg_sl ([.ref (gB g + a0), .int x1])).length) Slot.unset).toArray = ls at hl ⊢
  have hl : lv_has ls 3 [(0, .ref (gB g + a0)), (1, .int x1)] := hl
  show W p l e (rmD 2 0 0) _ _ _ _ _ _ _ _ _ _ _ _
  unfold mX10_name at hf
  obtain ⟨hO, hf⟩ := oO_sp hf
  obtain ⟨⟨hx, hb, hml, hown, hts⟩, htb, hlk, hkk, hbs⟩ := id C
  refine lv_aload_n hx hb dX10_name_0 rfl (lv_at hl 0 rfl) ?_
  refine pg_Vi (As := []) C hH mi_X10_isName vl_X10_190 (q := (RX10, TX10, 34)) (ci := 10) rfl rfl hf (fun _ e1 => (oO_sp e1).1) (fun _ _ e1 => c_X10_isName e1) rfl rfl hl.1 (Nat.le_of_ble_eq_true rfl) ⟨Nat.le_of_ble_eq_true rfl, Nat.le_of_ble_eq_true rfl⟩ ⟨Nat.zero_le _, Nat.zero_le _⟩ dX10_name_1 (fun H locs v1 h1 hH hf => ?_)
  refine lv_if_ne (tgt := 13) hx hb dX10_name_4 (by decide) (fun cn => ?_) (fun cn => ?_)
  · have hf := (if_neg cn).symm.trans hf
    refine lv_iconst (v := (0 : Int32)) hx hb dX10_name_13 (by decide) ?_
    refine lv_istore_n (lv' := [(2, .int (0 : Int32)), (0, .ref (gB g + a0)), (1, .int x1)]) hx hb dX10_name_14 rfl hl (by decide) rfl (fun ls hl => ?_)
    exact wX10_name_L15 C hr FU hH hf (lv_sub hl [1, 2, 0] rfl)
  · have hf := (if_pos cn).symm.trans hf
    refine lv_aload_n hx hb dX10_name_7 rfl (lv_at hl 0 rfl) ?_
    refine lv_iconst (v := (1 : Int32)) hx hb dX10_name_8 (by decide) ?_
    refine pg_Vi (As := [.int (1 : Int32)]) C hH mi_X10_bad vl_X10_112 (q := (RX10, TX10, 34)) (ci := 10) rfl rfl hf (fun _ e1 => (oO_sp e1).1) (fun _ _ e1 => c_X10_bad e1) rfl rfl hl.1 (Nat.le_of_ble_eq_true rfl) ⟨Nat.le_of_ble_eq_true rfl, Nat.le_of_ble_eq_true rfl⟩ ⟨Nat.zero_le _, Nat.zero_le _⟩ dX10_name_9 (fun H locs v9 h9 hH hf => ?_)
    exact pg_zret C hr hH hf dX10_name_12
end WK4
