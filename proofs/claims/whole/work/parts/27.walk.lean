/-! ===== 27: walks (by program) ===== -/
section WK7
variable {p : Program} {l : Launch} {e : Env} {s : State} {m : MethodId} {args : Array Value} {below : List Frame} {meth : Method} {c : Code} {g : GD}
set_option maxHeartbeats 4000000 in
set_option maxRecDepth 100000 in
theorem wX10_needs_b29 {r29 : PH → Nat → Int64 → Int32 → Option (Int32 × PH)} {r : Int32} {h' : PH} (C : CT g RX10 cX10_needs 5 (Cond.code yX10_needs cX10_needs 5 (some .int) :: TB) p s m args meth c) (hr : meth.sig.returnType = some .int) (k29 : ∀ {h : PH} {a0 : Nat} {x2 : Int64} {x4 : Int32} {H : Heap} {locs : List Loc} {ls : Array Slot}, HS g s H locs h → r29 h a0 x2 x4 = some (r, h') → lv_has ls 5 [(0, .ref (gB g + a0)), (2, .long x2), (4, .int x4)] → W p l e (rmD 9 0 0) s m args below meth c H locs 0 0 (MQ below (QcI g r h') args s 0 0 (aB g)) (F0 m 29 ls [])) {h : PH} {a0 : Nat} {x2 : Int64} {x4 : Int32} {H : Heap} {locs : List Loc} {ls : Array Slot} (hH : HS g s H locs h) (hf : mX10_needs_b29 r29 h a0 x2 x4 = some (r, h')) (hl : lv_has ls 5 [(0, .ref (gB g + a0)), (2, .long x2), (4, .int x4)]) : W p l e (rmD 9 0 0) s m args below meth c H locs 0 0 (MQ below (QcI g r h') args s 0 0 (aB g)) (F0 m 29 ls []) := by
  obtain ⟨⟨hx, hb, hml, hown, hts⟩, htb, hlk, hkk, hbs⟩ := id C
  unfold mX10_needs_b29 at hf
  refine lv_iload hx hb dX10_needs_29 (lv_at hl 2 rfl) ?_
  refine lv_bipush (v := (50 : Int32)) hx hb dX10_needs_31 (by decide) ?_
  refine lv_icmp_gt (tgt := 55) hx hb dX10_needs_33 (by decide) (fun cn => ?_) (fun cn => ?_)
  · have hf := (if_pos cn).symm.trans hf
    refine lv_bipush (v := (-2 : Int32)) hx hb dX10_needs_55 (by decide) ?_
    exact pg_iret C hr hH hf dX10_needs_57
  · have hf := (if_neg cn).symm.trans hf
    refine lv_aload_n hx hb dX10_needs_36 rfl (lv_at hl 0 rfl) ?_
    refine lv_lload_n hx hb dX10_needs_37 rfl (lv_at hl 1 rfl) ?_
    refine lv_iload hx hb dX10_needs_38 (lv_at hl 2 rfl) ?_
    refine pg_Vi (As := [.long x2, .int x4]) C hH mi_X10_isNear vl_X10_372 (q := (RX10, TX10, 34)) (ci := 10) rfl rfl hf (fun _ e1 => (oO_sp e1).1) (fun _ _ e1 => c_X10_isNear e1) rfl rfl hl.1 (Nat.le_of_ble_eq_true rfl) ⟨Nat.le_of_ble_eq_true rfl, Nat.le_of_ble_eq_true rfl⟩ ⟨Nat.zero_le _, Nat.zero_le _⟩ dX10_needs_40 (fun H locs v40 h40 hH hf => ?_)
    refine lv_if_eq (tgt := 49) hx hb dX10_needs_43 (by decide) (fun cn => ?_) (fun cn => ?_)
    · have hf := (if_pos cn).symm.trans hf
      refine lv_iinc (v := (x4 + 1)) (lv' := [(4, .int (x4 + 1)), (0, .ref (gB g + a0)), (2, .long x2)]) hx hb dX10_needs_49 hl (k := 2) rfl rfl (by decide) rfl (fun ls hl => ?_)
      refine lv_goto (tgt := 29) hx hb dX10_needs_52 (by decide) ?_
      exact k29 hH hf (lv_sub hl [1, 2, 0] rfl)
    · have hf := (if_neg cn).symm.trans hf
      refine lv_iload hx hb dX10_needs_46 (lv_at hl 2 rfl) ?_
      exact pg_iret C hr hH hf dX10_needs_48
set_option maxHeartbeats 4000000 in
set_option maxRecDepth 100000 in
theorem wX10_needs_L29 {r : Int32} {h' : PH} (C : CT g RX10 cX10_needs 5 (Cond.code yX10_needs cX10_needs 5 (some .int) :: TB) p s m args meth c) (hr : meth.sig.returnType = some .int) : ∀ (n : Nat) {h : PH} {a0 : Nat} {x2 : Int64} {x4 : Int32} {H : Heap} {locs : List Loc} {ls : Array Slot}, HS g s H locs h → mX10_needs_L29 n h a0 x2 x4 = some (r, h') → lv_has ls 5 [(0, .ref (gB g + a0)), (2, .long x2), (4, .int x4)] → W p l e (rmD 9 0 0) s m args below meth c H locs 0 0 (MQ below (QcI g r h') args s 0 0 (aB g)) (F0 m 29 ls []) := by
  intro n
  induction n with
  | zero =>
    intro h a0 x2 x4 H locs ls hH hf hl
    exact absurd hf (by intro z; cases z)
  | succ n ih =>
    intro h a0 x2 x4 H locs ls hH hf hl
    have hf : mX10_needs_b29 (mX10_needs_L29 n) h a0 x2 x4 = some (r, h') := hf
    exact wX10_needs_b29 C hr (fun a b c => ih a b c) hH hf hl
set_option maxHeartbeats 4000000 in
set_option maxRecDepth 100000 in
theorem c_X10_needs {l : Launch} {g : GD} {h : PH} {a0 : Nat} {x1 : Int32} {r : Int32} {h' : PH} (hf : mX10_needs h a0 x1 = some (r, h')) : Met l yX10_needs (Cond.code yX10_needs cX10_needs 5 (some .int) :: TB) (rmD 9 0 0) (PcH g [.ref (gB g + a0), .int x1] h) (QcI g r h') 0 0 (aB g) := by
  refine Met.ofW (cc := cX10_needs) (maxL := 5) (ret := some .int) (by decide) rfl ?_
  intro p e s m args below meth c s₁ B hml hv
  obtain ⟨rfl, hH0, hkk0⟩ := hv
  have C : CT g RX10 cX10_needs 5 (Cond.code yX10_needs cX10_needs 5 (some .int) :: TB) p s m _ meth c := pg_ct (Tw := []) B hml hH0 hkk0
  have hr := B.returns
  have hH : HS g s s.heap [] h := ⟨hH0, va_S.rf⟩
  have hl := lv_entry ([.ref (gB g + a0), .int x1]) (n := 5) (Nat.le_of_ble_eq_true rfl)
  rw [lg_entry_eq]
  generalize (lg_sl ([.ref (gB g + a0), .int x1]) ++ List.replicate (5 - (lg_sl ([.ref (gB g + a0), .int x1])).length) Slot.unset).toArray = ls at hl ⊢
  have hl : lv_has ls 5 [(0, .ref (gB g + a0)), (1, .int x1)] := hl
  show W p l e (rmD 9 0 0) _ _ _ _ _ _ _ _ _ _ _ _
  unfold mX10_needs at hf
  obtain ⟨hO, hf⟩ := oO_sp hf
  obtain ⟨⟨hx, hb, hml, hown, hts⟩, htb, hlk, hkk, hbs⟩ := id C
  refine lv_aload_n hx hb dX10_needs_0 rfl (lv_at hl 0 rfl) ?_
  refine lv_iconst (v := (0 : Int32)) hx hb dX10_needs_1 (by decide) ?_
  refine pg_pI C hH fl_X10_1 fm_10_0 hf dX10_needs_2 (fun H locs h2 hH hf => ?_)
  refine lv_aload_n hx hb dX10_needs_5 rfl (lv_at hl 0 rfl) ?_
  refine lv_iload_n hx hb dX10_needs_6 rfl (lv_at hl 1 rfl) ?_
  refine pg_Vi (As := [.int x1]) C hH mi_X10_isSale vl_X10_288 (q := (RX10, TX10, 34)) (ci := 10) rfl rfl hf (fun _ e1 => (oO_sp e1).1) (fun _ _ e1 => c_X10_isSale e1) rfl rfl hl.1 (Nat.le_of_ble_eq_true rfl) ⟨Nat.le_of_ble_eq_true rfl, Nat.le_of_ble_eq_true rfl⟩ ⟨Nat.zero_le _, Nat.zero_le _⟩ dX10_needs_7 (fun H locs v7 h7 hH hf => ?_)
  refine lv_if_ne (tgt := 15) hx hb dX10_needs_10 (by decide) (fun cn => ?_) (fun cn => ?_)
  · have hf := (if_neg cn).symm.trans hf
    refine lv_aload_n hx hb dX10_needs_15 rfl (lv_at hl 0 rfl) ?_
    refine lv_iload_n hx hb dX10_needs_16 rfl (lv_at hl 1 rfl) ?_
    refine pg_Vv (As := [.int x1]) C hH mi_X10_laysTests vl_X10_369 (q := (RX10, TX10, 34)) (ci := 10) rfl rfl hf (fun _ e1 => (oO_sp e1).1) (fun _ e1 => c_X10_laysTests e1) rfl rfl hl.1 (Nat.le_of_ble_eq_true rfl) ⟨Nat.le_of_ble_eq_true rfl, Nat.le_of_ble_eq_true rfl⟩ ⟨Nat.zero_le _, Nat.zero_le _⟩ dX10_needs_17 (fun H locs h17 hH hf => ?_)
    refine lv_aload_n hx hb dX10_needs_20 rfl (lv_at hl 0 rfl) ?_
    refine lv_iload_n hx hb dX10_needs_21 rfl (lv_at hl 1 rfl) ?_
    refine pg_Vl (As := [.int x1]) C hH mi_X10_ownOf vl_X10_335 (q := (RX10, TX10, 34)) (ci := 10) rfl rfl hf (fun _ e1 => (oO_sp e1).1) (fun _ _ e1 => c_X10_ownOf e1) rfl rfl hl.1 (Nat.le_of_ble_eq_true rfl) ⟨Nat.le_of_ble_eq_true rfl, Nat.le_of_ble_eq_true rfl⟩ ⟨Nat.zero_le _, Nat.zero_le _⟩ dX10_needs_22 (fun H locs v22 h22 hH hf => ?_)
    refine lv_lstore_n (lv' := [(2, .long v22), (0, .ref (gB g + a0)), (1, .int x1)]) hx hb dX10_needs_25 rfl hl (by decide) rfl (fun ls hl => ?_)
    refine lv_iconst (v := (0 : Int32)) hx hb dX10_needs_26 (by decide) ?_
    refine lv_istore (lv' := [(4, .int (0 : Int32)), (2, .long v22), (0, .ref (gB g + a0)), (1, .int x1)]) hx hb dX10_needs_27 hl (by decide) rfl (fun ls hl => ?_)
    exact wX10_needs_L29 C hr FU hH hf (lv_sub hl [2, 1, 0] rfl)
  · have hf := (if_pos cn).symm.trans hf
    refine lv_iconst (v := (-1 : Int32)) hx hb dX10_needs_13 (by decide) ?_
    exact pg_iret C hr hH hf dX10_needs_14
set_option maxHeartbeats 4000000 in
set_option maxRecDepth 100000 in
theorem wX10_rests_b51 {r27 : PH → Nat → Int32 → Int64 → Int32 → Int32 → Option (Int32 × PH)} {r : Int32} {h' : PH} (C : CT g RX10 cX10_rests 6 (Cond.code yX10_rests cX10_rests 6 (some .int) :: TB) p s m args meth c) (hr : meth.sig.returnType = some .int) (k27 : ∀ {h : PH} {a0 : Nat} {x1 : Int32} {x2 : Int64} {x4 : Int32} {x5 : Int32} {H : Heap} {locs : List Loc} {ls : Array Slot}, HS g s H locs h → r27 h a0 x1 x2 x4 x5 = some (r, h') → lv_has ls 6 [(0, .ref (gB g + a0)), (1, .int x1), (2, .long x2), (4, .int x4), (5, .int x5)] → W p l e (rmD 15 0 0) s m args below meth c H locs 0 0 (MQ below (QcI g r h') args s 0 0 (aB g)) (F0 m 27 ls [])) {h : PH} {a0 : Nat} {x1 : Int32} {x2 : Int64} {x4 : Int32} {x5 : Int32} {s0 : Nat} {s1 : Int32} {H : Heap} {locs : List Loc} {ls : Array Slot} (hH : HS g s H locs h) (hf : mX10_rests_b51 r27 h a0 x1 x2 x4 x5 s0 s1 = some (r, h')) (hl : lv_has ls 6 [(0, .ref (gB g + a0)), (1, .int x1), (2, .long x2), (4, .int x4), (5, .int x5)]) : W p l e (rmD 15 0 0) s m args below meth c H locs 0 0 (MQ below (QcI g r h') args s 0 0 (aB g)) (F0 m 51 ls [.int s1, .ref (gB g + s0)]) := by
  obtain ⟨⟨hx, hb, hml, hown, hts⟩, htb, hlk, hkk, hbs⟩ := id C
  unfold mX10_rests_b51 at hf
  refine pg_pI C hH fl_X10_47 fm_10_23 hf dX10_rests_51 (fun H locs h51 hH hf => ?_)
  refine lv_iload hx hb dX10_rests_54 (lv_at hl 3 rfl) ?_
  refine lv_aload_n hx hb dX10_rests_56 rfl (lv_at hl 0 rfl) ?_
  refine lv_iload_n hx hb dX10_rests_57 rfl (lv_at hl 1 rfl) ?_
  refine pg_Vl (As := [.int x1]) C hH mi_X10_worthOf vl_X10_429 (q := (RX10, TX10, 34)) (ci := 10) rfl rfl hf (fun _ e1 => (oO_sp e1).1) (fun _ _ e1 => c_X10_worthOf e1) rfl rfl hl.1 (Nat.le_of_ble_eq_true rfl) ⟨Nat.le_of_ble_eq_true rfl, Nat.le_of_ble_eq_true rfl⟩ ⟨Nat.zero_le _, Nat.zero_le _⟩ dX10_rests_58 (fun H locs v58 h58 hH hf => ?_)
  refine lv_lload_n hx hb dX10_rests_61 rfl (lv_at hl 2 rfl) ?_
  refine W.lcmp hx hb dX10_rests_62 ?_
  refine lv_if_eq (tgt := 73) hx hb dX10_rests_63 (by decide) (fun cn => ?_) (fun cn => ?_)
  · have hf := (if_pos ((lg_cmp_eq _ _).mp cn)).symm.trans hf
    refine lv_iconst (v := (0 : Int32)) hx hb dX10_rests_73 (by decide) ?_
    refine lv_ior hx hb dX10_rests_74 ?_
    refine lv_istore (lv' := [(4, .int (x4 ||| (0 : Int32))), (0, .ref (gB g + a0)), (1, .int x1), (2, .long x2), (5, .int x5)]) hx hb dX10_rests_75 hl (by decide) rfl (fun ls hl => ?_)
    refine lv_iinc (v := (x5 + 1)) (lv' := [(5, .int (x5 + 1)), (4, .int (x4 ||| (0 : Int32))), (0, .ref (gB g + a0)), (1, .int x1), (2, .long x2)]) hx hb dX10_rests_77 hl (k := 4) rfl rfl (by decide) rfl (fun ls hl => ?_)
    refine lv_goto (tgt := 27) hx hb dX10_rests_80 (by decide) ?_
    exact k27 hH hf (lv_sub hl [2, 3, 4, 1, 0] rfl)
  · have hf := (if_neg (fun z => cn ((lg_cmp_eq _ _).mpr z))).symm.trans hf
    refine lv_iconst (v := (1 : Int32)) hx hb dX10_rests_66 (by decide) ?_
    refine lv_iload hx hb dX10_rests_67 (lv_at hl 4 rfl) ?_
    refine lv_ishl hx hb dX10_rests_69 ?_
    refine lv_goto (tgt := 74) hx hb dX10_rests_70 (by decide) ?_
    refine lv_ior hx hb dX10_rests_74 ?_
    refine lv_istore (lv' := [(4, .int (x4 ||| ((1 : Int32) <<< (x5 &&& 31)))), (0, .ref (gB g + a0)), (1, .int x1), (2, .long x2), (5, .int x5)]) hx hb dX10_rests_75 hl (by decide) rfl (fun ls hl => ?_)
    refine lv_iinc (v := (x5 + 1)) (lv' := [(5, .int (x5 + 1)), (4, .int (x4 ||| ((1 : Int32) <<< (x5 &&& 31)))), (0, .ref (gB g + a0)), (1, .int x1), (2, .long x2)]) hx hb dX10_rests_77 hl (k := 4) rfl rfl (by decide) rfl (fun ls hl => ?_)
    refine lv_goto (tgt := 27) hx hb dX10_rests_80 (by decide) ?_
    exact k27 hH hf (lv_sub hl [2, 3, 4, 1, 0] rfl)
set_option maxHeartbeats 4000000 in
set_option maxRecDepth 100000 in
theorem wX10_rests_b27 {r27 : PH → Nat → Int32 → Int64 → Int32 → Int32 → Option (Int32 × PH)} {r : Int32} {h' : PH} (C : CT g RX10 cX10_rests 6 (Cond.code yX10_rests cX10_rests 6 (some .int) :: TB) p s m args meth c) (hr : meth.sig.returnType = some .int) (k27 : ∀ {h : PH} {a0 : Nat} {x1 : Int32} {x2 : Int64} {x4 : Int32} {x5 : Int32} {H : Heap} {locs : List Loc} {ls : Array Slot}, HS g s H locs h → r27 h a0 x1 x2 x4 x5 = some (r, h') → lv_has ls 6 [(0, .ref (gB g + a0)), (1, .int x1), (2, .long x2), (4, .int x4), (5, .int x5)] → W p l e (rmD 15 0 0) s m args below meth c H locs 0 0 (MQ below (QcI g r h') args s 0 0 (aB g)) (F0 m 27 ls [])) {h : PH} {a0 : Nat} {x1 : Int32} {x2 : Int64} {x4 : Int32} {x5 : Int32} {H : Heap} {locs : List Loc} {ls : Array Slot} (hH : HS g s H locs h) (hf : mX10_rests_b27 r27 h a0 x1 x2 x4 x5 = some (r, h')) (hl : lv_has ls 6 [(0, .ref (gB g + a0)), (1, .int x1), (2, .long x2), (4, .int x4), (5, .int x5)]) : W p l e (rmD 15 0 0) s m args below meth c H locs 0 0 (MQ below (QcI g r h') args s 0 0 (aB g)) (F0 m 27 ls []) := by
  obtain ⟨⟨hx, hb, hml, hown, hts⟩, htb, hlk, hkk, hbs⟩ := id C
  unfold mX10_rests_b27 at hf
  refine lv_iload hx hb dX10_rests_27 (lv_at hl 4 rfl) ?_
  refine lv_aload_n hx hb dX10_rests_29 rfl (lv_at hl 0 rfl) ?_
  refine pg_gR C hH fl_X10_13 hf dX10_rests_30 (fun v30 hf => ?_)
  refine lv_iconst (v := (3 : Int32)) hx hb dX10_rests_33 (by decide) ?_
  refine pg_aI C hH hf dX10_rests_34 (fun v34 hf => ?_)
  refine lv_icmp_ge (tgt := 83) hx hb dX10_rests_35 (by decide) (fun cn => ?_) (fun cn => ?_)
  · have hf := (if_pos cn).symm.trans hf
    refine lv_aload_n hx hb dX10_rests_83 rfl (lv_at hl 0 rfl) ?_
    refine lv_iconst (v := (-1 : Int32)) hx hb dX10_rests_84 (by decide) ?_
    refine pg_pI C hH fl_X10_47 fm_10_23 hf dX10_rests_85 (fun H locs h85 hH hf => ?_)
    refine lv_iload hx hb dX10_rests_88 (lv_at hl 3 rfl) ?_
    exact pg_iret C hr hH hf dX10_rests_90
  · have hf := (if_neg cn).symm.trans hf
    refine lv_aload_n hx hb dX10_rests_38 rfl (lv_at hl 0 rfl) ?_
    refine lv_iload hx hb dX10_rests_39 (lv_at hl 4 rfl) ?_
    refine lv_iload_n hx hb dX10_rests_41 rfl (lv_at hl 1 rfl) ?_
    refine lv_icmp_ne (tgt := 49) hx hb dX10_rests_42 (by decide) (fun cn => ?_) (fun cn => ?_)
    · have hf := (if_neg cn).symm.trans hf
      refine lv_iload hx hb dX10_rests_49 (lv_at hl 4 rfl) ?_
      exact wX10_rests_b51 C hr k27 hH hf (lv_sub hl [0, 1, 2, 3, 4] rfl)
    · have hf := (if_pos cn).symm.trans hf
      refine lv_iconst (v := (-1 : Int32)) hx hb dX10_rests_45 (by decide) ?_
      refine lv_goto (tgt := 51) hx hb dX10_rests_46 (by decide) ?_
      exact wX10_rests_b51 C hr k27 hH hf (lv_sub hl [0, 1, 2, 3, 4] rfl)
set_option maxHeartbeats 4000000 in
set_option maxRecDepth 100000 in
theorem wX10_rests_L27 {r : Int32} {h' : PH} (C : CT g RX10 cX10_rests 6 (Cond.code yX10_rests cX10_rests 6 (some .int) :: TB) p s m args meth c) (hr : meth.sig.returnType = some .int) : ∀ (n : Nat) {h : PH} {a0 : Nat} {x1 : Int32} {x2 : Int64} {x4 : Int32} {x5 : Int32} {H : Heap} {locs : List Loc} {ls : Array Slot}, HS g s H locs h → mX10_rests_L27 n h a0 x1 x2 x4 x5 = some (r, h') → lv_has ls 6 [(0, .ref (gB g + a0)), (1, .int x1), (2, .long x2), (4, .int x4), (5, .int x5)] → W p l e (rmD 15 0 0) s m args below meth c H locs 0 0 (MQ below (QcI g r h') args s 0 0 (aB g)) (F0 m 27 ls []) := by
  intro n
  induction n with
  | zero =>
    intro h a0 x1 x2 x4 x5 H locs ls hH hf hl
    exact absurd hf (by intro z; cases z)
  | succ n ih =>
    intro h a0 x1 x2 x4 x5 H locs ls hH hf hl
    have hf : mX10_rests_b27 (mX10_rests_L27 n) h a0 x1 x2 x4 x5 = some (r, h') := hf
    exact wX10_rests_b27 C hr (fun a b c => ih a b c) hH hf hl
set_option maxHeartbeats 4000000 in
set_option maxRecDepth 100000 in
theorem c_X10_rests {l : Launch} {g : GD} {h : PH} {a0 : Nat} {x1 : Int32} {r : Int32} {h' : PH} (hf : mX10_rests h a0 x1 = some (r, h')) : Met l yX10_rests (Cond.code yX10_rests cX10_rests 6 (some .int) :: TB) (rmD 15 0 0) (PcH g [.ref (gB g + a0), .int x1] h) (QcI g r h') 0 0 (aB g) := by
  refine Met.ofW (cc := cX10_rests) (maxL := 6) (ret := some .int) (by decide) rfl ?_
  intro p e s m args below meth c s₁ B hml hv
  obtain ⟨rfl, hH0, hkk0⟩ := hv
  have C : CT g RX10 cX10_rests 6 (Cond.code yX10_rests cX10_rests 6 (some .int) :: TB) p s m _ meth c := pg_ct (Tw := []) B hml hH0 hkk0
  have hr := B.returns
  have hH : HS g s s.heap [] h := ⟨hH0, va_S.rf⟩
  have hl := lv_entry ([.ref (gB g + a0), .int x1]) (n := 6) (Nat.le_of_ble_eq_true rfl)
  rw [lg_entry_eq]
  generalize (lg_sl ([.ref (gB g + a0), .int x1]) ++ List.replicate (6 - (lg_sl ([.ref (gB g + a0), .int x1])).length) Slot.unset).toArray = ls at hl ⊢
  have hl : lv_has ls 6 [(0, .ref (gB g + a0)), (1, .int x1)] := hl
  show W p l e (rmD 15 0 0) _ _ _ _ _ _ _ _ _ _ _ _
  unfold mX10_rests at hf
  obtain ⟨hO, hf⟩ := oO_sp hf
  obtain ⟨⟨hx, hb, hml, hown, hts⟩, htb, hlk, hkk, hbs⟩ := id C
  refine lv_aload_n hx hb dX10_rests_0 rfl (lv_at hl 0 rfl) ?_
  refine lv_iconst (v := (0 : Int32)) hx hb dX10_rests_1 (by decide) ?_
  refine pg_pI C hH fl_X10_1 fm_10_0 hf dX10_rests_2 (fun H locs h2 hH hf => ?_)
  refine lv_aload_n hx hb dX10_rests_5 rfl (lv_at hl 0 rfl) ?_
  refine lv_iload_n hx hb dX10_rests_6 rfl (lv_at hl 1 rfl) ?_
  refine pg_Vi (As := [.int x1]) C hH mi_X10_isSale vl_X10_288 (q := (RX10, TX10, 34)) (ci := 10) rfl rfl hf (fun _ e1 => (oO_sp e1).1) (fun _ _ e1 => c_X10_isSale e1) rfl rfl hl.1 (Nat.le_of_ble_eq_true rfl) ⟨Nat.le_of_ble_eq_true rfl, Nat.le_of_ble_eq_true rfl⟩ ⟨Nat.zero_le _, Nat.zero_le _⟩ dX10_rests_7 (fun H locs v7 h7 hH hf => ?_)
  refine lv_if_ne (tgt := 15) hx hb dX10_rests_10 (by decide) (fun cn => ?_) (fun cn => ?_)
  · have hf := (if_neg cn).symm.trans hf
    refine lv_aload_n hx hb dX10_rests_15 rfl (lv_at hl 0 rfl) ?_
    refine lv_iload_n hx hb dX10_rests_16 rfl (lv_at hl 1 rfl) ?_
    refine pg_Vl (As := [.int x1]) C hH mi_X10_worthOf vl_X10_429 (q := (RX10, TX10, 34)) (ci := 10) rfl rfl hf (fun _ e1 => (oO_sp e1).1) (fun _ _ e1 => c_X10_worthOf e1) rfl rfl hl.1 (Nat.le_of_ble_eq_true rfl) ⟨Nat.le_of_ble_eq_true rfl, Nat.le_of_ble_eq_true rfl⟩ ⟨Nat.zero_le _, Nat.zero_le _⟩ dX10_rests_17 (fun H locs v17 h17 hH hf => ?_)
    refine lv_lstore_n (lv' := [(2, .long v17), (0, .ref (gB g + a0)), (1, .int x1)]) hx hb dX10_rests_20 rfl hl (by decide) rfl (fun ls hl => ?_)
    refine lv_iconst (v := (0 : Int32)) hx hb dX10_rests_21 (by decide) ?_
    refine lv_istore (lv' := [(4, .int (0 : Int32)), (2, .long v17), (0, .ref (gB g + a0)), (1, .int x1)]) hx hb dX10_rests_22 hl (by decide) rfl (fun ls hl => ?_)
    refine lv_iconst (v := (0 : Int32)) hx hb dX10_rests_24 (by decide) ?_
    refine lv_istore (lv' := [(5, .int (0 : Int32)), (4, .int (0 : Int32)), (2, .long v17), (0, .ref (gB g + a0)), (1, .int x1)]) hx hb dX10_rests_25 hl (by decide) rfl (fun ls hl => ?_)
    exact wX10_rests_L27 C hr FU hH hf (lv_sub hl [3, 4, 2, 1, 0] rfl)
  · have hf := (if_pos cn).symm.trans hf
    refine lv_iconst (v := (-1 : Int32)) hx hb dX10_rests_13 (by decide) ?_
    exact pg_iret C hr hH hf dX10_rests_14
set_option maxHeartbeats 4000000 in
set_option maxRecDepth 100000 in
theorem c_X10_turned {l : Launch} {g : GD} {h : PH} {a0 : Nat} {x1 : Int32} {r : Int64} {h' : PH} (hf : mX10_turned h a0 x1 = some (r, h')) : Met l yX10_turned (Cond.code yX10_turned cX10_turned 2 (some .long) :: TB) (rmD 14 0 0) (PcH g [.ref (gB g + a0), .int x1] h) (QcL g r h') 0 0 (aB g) := by
  refine Met.ofW (cc := cX10_turned) (maxL := 2) (ret := some .long) (by decide) rfl ?_
  intro p e s m args below meth c s₁ B hml hv
  obtain ⟨rfl, hH0, hkk0⟩ := hv
  have C : CT g RX10 cX10_turned 2 (Cond.code yX10_turned cX10_turned 2 (some .long) :: TB) p s m _ meth c := pg_ct (Tw := []) B hml hH0 hkk0
  have hr := B.returns
  have hH : HS g s s.heap [] h := ⟨hH0, va_S.rf⟩
  have hl := lv_entry ([.ref (gB g + a0), .int x1]) (n := 2) (Nat.le_of_ble_eq_true rfl)
  rw [lg_entry_eq]
  generalize (lg_sl ([.ref (gB g + a0), .int x1]) ++ List.replicate (2 - (lg_sl ([.ref (gB g + a0), .int x1])).length) Slot.unset).toArray = ls at hl ⊢
  have hl : lv_has ls 2 [(0, .ref (gB g + a0)), (1, .int x1)] := hl
  show W p l e (rmD 14 0 0) _ _ _ _ _ _ _ _ _ _ _ _
  unfold mX10_turned at hf
  obtain ⟨hO, hf⟩ := oO_sp hf
  obtain ⟨⟨hx, hb, hml, hown, hts⟩, htb, hlk, hkk, hbs⟩ := id C
  refine lv_aload_n hx hb dX10_turned_0 rfl (lv_at hl 0 rfl) ?_
  refine lv_iconst (v := (0 : Int32)) hx hb dX10_turned_1 (by decide) ?_
  refine pg_pI C hH fl_X10_1 fm_10_0 hf dX10_turned_2 (fun H locs h2 hH hf => ?_)
  refine lv_aload_n hx hb dX10_turned_5 rfl (lv_at hl 0 rfl) ?_
  refine lv_iload_n hx hb dX10_turned_6 rfl (lv_at hl 1 rfl) ?_
  refine pg_Vi (As := [.int x1]) C hH mi_X10_isSale vl_X10_288 (q := (RX10, TX10, 34)) (ci := 10) rfl rfl hf (fun _ e1 => (oO_sp e1).1) (fun _ _ e1 => c_X10_isSale e1) rfl rfl hl.1 (Nat.le_of_ble_eq_true rfl) ⟨Nat.le_of_ble_eq_true rfl, Nat.le_of_ble_eq_true rfl⟩ ⟨Nat.zero_le _, Nat.zero_le _⟩ dX10_turned_7 (fun H locs v7 h7 hH hf => ?_)
  refine lv_if_eq (tgt := 30) hx hb dX10_turned_10 (by decide) (fun cn => ?_) (fun cn => ?_)
  · have hf := (if_pos cn).symm.trans hf
    refine lv_ldc2 (v := (-1 : Int64)) hx hb hown (hts _ (htb _ kl_X10_339)) dX10_turned_30 ?_
    exact pg_lret C hr hH hf dX10_turned_33
  · have hf := (if_neg cn).symm.trans hf
    refine lv_aload_n hx hb dX10_turned_13 rfl (lv_at hl 0 rfl) ?_
    refine lv_iload_n hx hb dX10_turned_14 rfl (lv_at hl 1 rfl) ?_
    refine lv_iconst (v := (1 : Int32)) hx hb dX10_turned_15 (by decide) ?_
    refine lv_aload_n hx hb dX10_turned_16 rfl (lv_at hl 0 rfl) ?_
    refine pg_gR C hH fl_X10_13 hf dX10_turned_17 (fun v17 hf => ?_)
    refine lv_bipush (v := (10 : Int32)) hx hb dX10_turned_20 (by decide) ?_
    refine pg_aI C hH hf dX10_turned_22 (fun v22 hf => ?_)
    refine lv_isub hx hb dX10_turned_23 ?_
    refine pg_Vl (As := [.int x1, .int ((1 : Int32) - v22)]) C hH mi_X10_worthBy vl_X10_426 (q := (RX10, TX10, 34)) (ci := 10) rfl rfl hf (fun _ e1 => (oO_sp e1).1) (fun _ _ e1 => c_X10_worthBy e1) rfl rfl hl.1 (Nat.le_of_ble_eq_true rfl) ⟨Nat.le_of_ble_eq_true rfl, Nat.le_of_ble_eq_true rfl⟩ ⟨Nat.zero_le _, Nat.zero_le _⟩ dX10_turned_24 (fun H locs v24 h24 hH hf => ?_)
    refine lv_goto (tgt := 33) hx hb dX10_turned_27 (by decide) ?_
    exact pg_lret C hr hH hf dX10_turned_33
set_option maxHeartbeats 4000000 in
set_option maxRecDepth 100000 in
theorem c_X10_dueOf {l : Launch} {g : GD} {h : PH} {a0 : Nat} {x1 : Int32} {r : Int64} {h' : PH} (hf : mX10_dueOf h a0 x1 = some (r, h')) : Met l yX10_dueOf (Cond.code yX10_dueOf cX10_dueOf 4 (some .long) :: TB) (rmD 15 0 0) (PcH g [.ref (gB g + a0), .int x1] h) (QcL g r h') 0 0 (aB g) := by
  refine Met.ofW (cc := cX10_dueOf) (maxL := 4) (ret := some .long) (by decide) rfl ?_
  intro p e s m args below meth c s₁ B hml hv
  obtain ⟨rfl, hH0, hkk0⟩ := hv
  have C : CT g RX10 cX10_dueOf 4 (Cond.code yX10_dueOf cX10_dueOf 4 (some .long) :: TB) p s m _ meth c := pg_ct (Tw := []) B hml hH0 hkk0
  have hr := B.returns
  have hH : HS g s s.heap [] h := ⟨hH0, va_S.rf⟩
  have hl := lv_entry ([.ref (gB g + a0), .int x1]) (n := 4) (Nat.le_of_ble_eq_true rfl)
  rw [lg_entry_eq]
  generalize (lg_sl ([.ref (gB g + a0), .int x1]) ++ List.replicate (4 - (lg_sl ([.ref (gB g + a0), .int x1])).length) Slot.unset).toArray = ls at hl ⊢
  have hl : lv_has ls 4 [(0, .ref (gB g + a0)), (1, .int x1)] := hl
  show W p l e (rmD 15 0 0) _ _ _ _ _ _ _ _ _ _ _ _
  unfold mX10_dueOf at hf
  obtain ⟨hO, hf⟩ := oO_sp hf
  obtain ⟨⟨hx, hb, hml, hown, hts⟩, htb, hlk, hkk, hbs⟩ := id C
  refine lv_aload_n hx hb dX10_dueOf_0 rfl (lv_at hl 0 rfl) ?_
  refine lv_iload_n hx hb dX10_dueOf_1 rfl (lv_at hl 1 rfl) ?_
  refine pg_Vl (As := [.int x1]) C hH mi_X10_worthOf vl_X10_429 (q := (RX10, TX10, 34)) (ci := 10) rfl rfl hf (fun _ e1 => (oO_sp e1).1) (fun _ _ e1 => c_X10_worthOf e1) rfl rfl hl.1 (Nat.le_of_ble_eq_true rfl) ⟨Nat.le_of_ble_eq_true rfl, Nat.le_of_ble_eq_true rfl⟩ ⟨Nat.zero_le _, Nat.zero_le _⟩ dX10_dueOf_2 (fun H locs v2 h2 hH hf => ?_)
  refine lv_lstore_n (lv' := [(2, .long v2), (0, .ref (gB g + a0)), (1, .int x1)]) hx hb dX10_dueOf_5 rfl hl (by decide) rfl (fun ls hl => ?_)
  refine lv_lload_n hx hb dX10_dueOf_6 rfl (lv_at hl 0 rfl) ?_
  refine lv_lconst (v := (0 : Int64)) hx hb dX10_dueOf_7 (by decide) ?_
  refine W.lcmp hx hb dX10_dueOf_8 ?_
  refine lv_if_ge (tgt := 18) hx hb dX10_dueOf_9 (by decide) (fun cn => ?_) (fun cn => ?_)
  · have hf := (if_pos ((lg_cmp_ge _ _).mp cn)).symm.trans hf
    refine lv_lload_n hx hb dX10_dueOf_18 rfl (lv_at hl 0 rfl) ?_
    refine lv_aload_n hx hb dX10_dueOf_19 rfl (lv_at hl 1 rfl) ?_
    refine pg_gR C hH fl_X10_13 hf dX10_dueOf_20 (fun v20 hf => ?_)
    refine lv_bipush (v := (9 : Int32)) hx hb dX10_dueOf_23 (by decide) ?_
    refine pg_aI C hH hf dX10_dueOf_25 (fun v25 hf => ?_)
    refine lv_i2l (v := (Int32.toInt64 v25)) hx hb dX10_dueOf_26 rfl ?_
    refine lv_lmul hx hb dX10_dueOf_27 ?_
    refine lv_ldc2 (v := (100 : Int64)) hx hb hown (hts _ (htb _ kl_X10_326)) dX10_dueOf_28 ?_
    refine lv_ldiv hx hb dX10_dueOf_31 (by decide) ?_
    exact pg_lret C hr hH hf dX10_dueOf_32
  · have hf := (if_neg (fun z => cn ((lg_cmp_ge _ _).mpr z))).symm.trans hf
    refine lv_ldc2 (v := (-2 : Int64)) hx hb hown (hts _ (htb _ kl_X10_382)) dX10_dueOf_12 ?_
    refine lv_goto (tgt := 32) hx hb dX10_dueOf_15 (by decide) ?_
    exact pg_lret C hr hH hf dX10_dueOf_32
set_option maxHeartbeats 4000000 in
set_option maxRecDepth 100000 in
theorem c_X10_due {l : Launch} {g : GD} {h : PH} {a0 : Nat} {x1 : Int32} {r : Int64} {h' : PH} (hf : mX10_due h a0 x1 = some (r, h')) : Met l yX10_due (Cond.code yX10_due cX10_due 2 (some .long) :: TB) (rmD 16 0 0) (PcH g [.ref (gB g + a0), .int x1] h) (QcL g r h') 0 0 (aB g) := by
  refine Met.ofW (cc := cX10_due) (maxL := 2) (ret := some .long) (by decide) rfl ?_
  intro p e s m args below meth c s₁ B hml hv
  obtain ⟨rfl, hH0, hkk0⟩ := hv
  have C : CT g RX10 cX10_due 2 (Cond.code yX10_due cX10_due 2 (some .long) :: TB) p s m _ meth c := pg_ct (Tw := []) B hml hH0 hkk0
  have hr := B.returns
  have hH : HS g s s.heap [] h := ⟨hH0, va_S.rf⟩
  have hl := lv_entry ([.ref (gB g + a0), .int x1]) (n := 2) (Nat.le_of_ble_eq_true rfl)
  rw [lg_entry_eq]
  generalize (lg_sl ([.ref (gB g + a0), .int x1]) ++ List.replicate (2 - (lg_sl ([.ref (gB g + a0), .int x1])).length) Slot.unset).toArray = ls at hl ⊢
  have hl : lv_has ls 2 [(0, .ref (gB g + a0)), (1, .int x1)] := hl
  show W p l e (rmD 16 0 0) _ _ _ _ _ _ _ _ _ _ _ _
  unfold mX10_due at hf
  obtain ⟨hO, hf⟩ := oO_sp hf
  obtain ⟨⟨hx, hb, hml, hown, hts⟩, htb, hlk, hkk, hbs⟩ := id C
  refine lv_aload_n hx hb dX10_due_0 rfl (lv_at hl 0 rfl) ?_
  refine lv_iconst (v := (0 : Int32)) hx hb dX10_due_1 (by decide) ?_
  refine pg_pI C hH fl_X10_1 fm_10_0 hf dX10_due_2 (fun H locs h2 hH hf => ?_)
  refine lv_aload_n hx hb dX10_due_5 rfl (lv_at hl 0 rfl) ?_
  refine lv_iload_n hx hb dX10_due_6 rfl (lv_at hl 1 rfl) ?_
  refine pg_Vi (As := [.int x1]) C hH mi_X10_isSale vl_X10_288 (q := (RX10, TX10, 34)) (ci := 10) rfl rfl hf (fun _ e1 => (oO_sp e1).1) (fun _ _ e1 => c_X10_isSale e1) rfl rfl hl.1 (Nat.le_of_ble_eq_true rfl) ⟨Nat.le_of_ble_eq_true rfl, Nat.le_of_ble_eq_true rfl⟩ ⟨Nat.zero_le _, Nat.zero_le _⟩ dX10_due_7 (fun H locs v7 h7 hH hf => ?_)
  refine lv_if_eq (tgt := 21) hx hb dX10_due_10 (by decide) (fun cn => ?_) (fun cn => ?_)
  · have hf := (if_pos cn).symm.trans hf
    refine lv_ldc2 (v := (-1 : Int64)) hx hb hown (hts _ (htb _ kl_X10_339)) dX10_due_21 ?_
    exact pg_lret C hr hH hf dX10_due_24
  · have hf := (if_neg cn).symm.trans hf
    refine lv_aload_n hx hb dX10_due_13 rfl (lv_at hl 0 rfl) ?_
    refine lv_iload_n hx hb dX10_due_14 rfl (lv_at hl 1 rfl) ?_
    refine pg_Vl (As := [.int x1]) C hH mi_X10_dueOf vl_X10_432 (q := (RX10, TX10, 34)) (ci := 10) rfl rfl hf (fun _ e1 => (oO_sp e1).1) (fun _ _ e1 => c_X10_dueOf e1) rfl rfl hl.1 (Nat.le_of_ble_eq_true rfl) ⟨Nat.le_of_ble_eq_true rfl, Nat.le_of_ble_eq_true rfl⟩ ⟨Nat.zero_le _, Nat.zero_le _⟩ dX10_due_15 (fun H locs v15 h15 hH hf => ?_)
    refine lv_goto (tgt := 24) hx hb dX10_due_18 (by decide) ?_
    exact pg_lret C hr hH hf dX10_due_24
set_option maxHeartbeats 4000000 in
set_option maxRecDepth 100000 in
theorem wX10_dues_b9 {r9 : PH → Nat → Int64 → Int32 → Option (Int64 × PH)} {r : Int64} {h' : PH} (C : CT g RX10 cX10_dues 6 (Cond.code yX10_dues cX10_dues 6 (some .long) :: TB) p s m args meth c) (hr : meth.sig.returnType = some .long) (k9 : ∀ {h : PH} {a0 : Nat} {x1 : Int64} {x3 : Int32} {H : Heap} {locs : List Loc} {ls : Array Slot}, HS g s H locs h → r9 h a0 x1 x3 = some (r, h') → lv_has ls 6 [(0, .ref (gB g + a0)), (1, .long x1), (3, .int x3)] → W p l e (rmD 16 0 0) s m args below meth c H locs 0 0 (MQ below (QcL g r h') args s 0 0 (aB g)) (F0 m 9 ls [])) {h : PH} {a0 : Nat} {x1 : Int64} {x3 : Int32} {H : Heap} {locs : List Loc} {ls : Array Slot} (hH : HS g s H locs h) (hf : mX10_dues_b9 r9 h a0 x1 x3 = some (r, h')) (hl : lv_has ls 6 [(0, .ref (gB g + a0)), (1, .long x1), (3, .int x3)]) : W p l e (rmD 16 0 0) s m args below meth c H locs 0 0 (MQ below (QcL g r h') args s 0 0 (aB g)) (F0 m 9 ls []) := by
  obtain ⟨⟨hx, hb, hml, hown, hts⟩, htb, hlk, hkk, hbs⟩ := id C
  unfold mX10_dues_b9 at hf
  refine lv_iload_n hx hb dX10_dues_9 rfl (lv_at hl 2 rfl) ?_
  refine lv_aload_n hx hb dX10_dues_10 rfl (lv_at hl 0 rfl) ?_
  refine pg_gR C hH fl_X10_13 hf dX10_dues_11 (fun v11 hf => ?_)
  refine lv_iconst (v := (3 : Int32)) hx hb dX10_dues_14 (by decide) ?_
  refine pg_aI C hH hf dX10_dues_15 (fun v15 hf => ?_)
  refine lv_icmp_ge (tgt := 48) hx hb dX10_dues_16 (by decide) (fun cn => ?_) (fun cn => ?_)
  · have hf := (if_pos cn).symm.trans hf
    refine lv_lload_n hx hb dX10_dues_48 rfl (lv_at hl 1 rfl) ?_
    exact pg_lret C hr hH hf dX10_dues_49
  · have hf := (if_neg cn).symm.trans hf
    refine lv_aload_n hx hb dX10_dues_19 rfl (lv_at hl 0 rfl) ?_
    refine lv_iload_n hx hb dX10_dues_20 rfl (lv_at hl 2 rfl) ?_
    refine pg_Vl (As := [.int x3]) C hH mi_X10_dueOf vl_X10_432 (q := (RX10, TX10, 34)) (ci := 10) rfl rfl hf (fun _ e1 => (oO_sp e1).1) (fun _ _ e1 => c_X10_dueOf e1) rfl rfl hl.1 (Nat.le_of_ble_eq_true rfl) ⟨Nat.le_of_ble_eq_true rfl, Nat.le_of_ble_eq_true rfl⟩ ⟨Nat.zero_le _, Nat.zero_le _⟩ dX10_dues_21 (fun H locs v21 h21 hH hf => ?_)
    refine lv_lstore (lv' := [(4, .long v21), (0, .ref (gB g + a0)), (1, .long x1), (3, .int x3)]) hx hb dX10_dues_24 hl (by decide) rfl (fun ls hl => ?_)
    refine lv_lload_n hx hb dX10_dues_26 rfl (lv_at hl 2 rfl) ?_
    refine lv_lload hx hb dX10_dues_27 (lv_at hl 0 rfl) ?_
    refine lv_lconst (v := (0 : Int64)) hx hb dX10_dues_29 (by decide) ?_
    refine W.lcmp hx hb dX10_dues_30 ?_
    refine lv_if_ge (tgt := 38) hx hb dX10_dues_31 (by decide) (fun cn => ?_) (fun cn => ?_)
    · have hf := (if_pos ((lg_cmp_ge _ _).mp cn)).symm.trans hf
      refine lv_lload hx hb dX10_dues_38 (lv_at hl 0 rfl) ?_
      refine lv_ladd hx hb dX10_dues_40 ?_
      refine lv_lstore_n (lv' := [(1, .long (x1 + v21)), (4, .long v21), (0, .ref (gB g + a0)), (3, .int x3)]) hx hb dX10_dues_41 rfl hl (by decide) rfl (fun ls hl => ?_)
      refine lv_iinc (v := (x3 + 1)) (lv' := [(3, .int (x3 + 1)), (1, .long (x1 + v21)), (4, .long v21), (0, .ref (gB g + a0))]) hx hb dX10_dues_42 hl (k := 3) rfl rfl (by decide) rfl (fun ls hl => ?_)
      refine lv_goto (tgt := 9) hx hb dX10_dues_45 (by decide) ?_
      exact k9 hH hf (lv_sub hl [3, 1, 0] rfl)
    · have hf := (if_neg (fun z => cn ((lg_cmp_ge _ _).mpr z))).symm.trans hf
      refine lv_lconst (v := (0 : Int64)) hx hb dX10_dues_34 (by decide) ?_
      refine lv_goto (tgt := 40) hx hb dX10_dues_35 (by decide) ?_
      refine lv_ladd hx hb dX10_dues_40 ?_
      refine lv_lstore_n (lv' := [(1, .long (x1 + (0 : Int64))), (4, .long v21), (0, .ref (gB g + a0)), (3, .int x3)]) hx hb dX10_dues_41 rfl hl (by decide) rfl (fun ls hl => ?_)
      refine lv_iinc (v := (x3 + 1)) (lv' := [(3, .int (x3 + 1)), (1, .long (x1 + (0 : Int64))), (4, .long v21), (0, .ref (gB g + a0))]) hx hb dX10_dues_42 hl (k := 3) rfl rfl (by decide) rfl (fun ls hl => ?_)
      refine lv_goto (tgt := 9) hx hb dX10_dues_45 (by decide) ?_
      exact k9 hH hf (lv_sub hl [3, 1, 0] rfl)
set_option maxHeartbeats 4000000 in
set_option maxRecDepth 100000 in
theorem wX10_dues_L9 {r : Int64} {h' : PH} (C : CT g RX10 cX10_dues 6 (Cond.code yX10_dues cX10_dues 6 (some .long) :: TB) p s m args meth c) (hr : meth.sig.returnType = some .long) : ∀ (n : Nat) {h : PH} {a0 : Nat} {x1 : Int64} {x3 : Int32} {H : Heap} {locs : List Loc} {ls : Array Slot}, HS g s H locs h → mX10_dues_L9 n h a0 x1 x3 = some (r, h') → lv_has ls 6 [(0, .ref (gB g + a0)), (1, .long x1), (3, .int x3)] → W p l e (rmD 16 0 0) s m args below meth c H locs 0 0 (MQ below (QcL g r h') args s 0 0 (aB g)) (F0 m 9 ls []) := by
  intro n
  induction n with
  | zero =>
    intro h a0 x1 x3 H locs ls hH hf hl
    exact absurd hf (by intro z; cases z)
  | succ n ih =>
    intro h a0 x1 x3 H locs ls hH hf hl
    have hf : mX10_dues_b9 (mX10_dues_L9 n) h a0 x1 x3 = some (r, h') := hf
    exact wX10_dues_b9 C hr (fun a b c => ih a b c) hH hf hl
set_option maxHeartbeats 4000000 in
set_option maxRecDepth 100000 in
theorem c_X10_dues {l : Launch} {g : GD} {h : PH} {a0 : Nat} {r : Int64} {h' : PH} (hf : mX10_dues h a0 = some (r, h')) : Met l yX10_dues (Cond.code yX10_dues cX10_dues 6 (some .long) :: TB) (rmD 16 0 0) (PcH g [.ref (gB g + a0)] h) (QcL g r h') 0 0 (aB g) := by
  refine Met.ofW (cc := cX10_dues) (maxL := 6) (ret := some .long) (by decide) rfl ?_
  intro p e s m args below meth c s₁ B hml hv
  obtain ⟨rfl, hH0, hkk0⟩ := hv
  have C : CT g RX10 cX10_dues 6 (Cond.code yX10_dues cX10_dues 6 (some .long) :: TB) p s m _ meth c := pg_ct (Tw := []) B hml hH0 hkk0
  have hr := B.returns
  have hH : HS g s s.heap [] h := ⟨hH0, va_S.rf⟩
  have hl := lv_entry ([.ref (gB g + a0)]) (n := 6) (Nat.le_of_ble_eq_true rfl)
  rw [lg_entry_eq]
  generalize (lg_sl ([.ref (gB g + a0)]) ++ List.replicate (6 - (lg_sl ([.ref (gB g + a0)])).length) Slot.unset).toArray = ls at hl ⊢
  have hl : lv_has ls 6 [(0, .ref (gB g + a0))] := hl
  show W p l e (rmD 16 0 0) _ _ _ _ _ _ _ _ _ _ _ _
  unfold mX10_dues at hf
  obtain ⟨hO, hf⟩ := oO_sp hf
  obtain ⟨⟨hx, hb, hml, hown, hts⟩, htb, hlk, hkk, hbs⟩ := id C
  refine lv_aload_n hx hb dX10_dues_0 rfl (lv_at hl 0 rfl) ?_
  refine lv_iconst (v := (0 : Int32)) hx hb dX10_dues_1 (by decide) ?_
  refine pg_pI C hH fl_X10_1 fm_10_0 hf dX10_dues_2 (fun H locs h2 hH hf => ?_)
  refine lv_lconst (v := (0 : Int64)) hx hb dX10_dues_5 (by decide) ?_
  refine lv_lstore_n (lv' := [(1, .long (0 : Int64)), (0, .ref (gB g + a0))]) hx hb dX10_dues_6 rfl hl (by decide) rfl (fun ls hl => ?_)
  refine lv_iconst (v := (0 : Int32)) hx hb dX10_dues_7 (by decide) ?_
  refine lv_istore_n (lv' := [(3, .int (0 : Int32)), (1, .long (0 : Int64)), (0, .ref (gB g + a0))]) hx hb dX10_dues_8 rfl hl (by decide) rfl (fun ls hl => ?_)
  exact wX10_dues_L9 C hr FU hH hf (lv_sub hl [2, 1, 0] rfl)
set_option maxHeartbeats 4000000 in
set_option maxRecDepth 100000 in
theorem wX10_all_b55 {r23 : PH → Nat → Int32 → Int32 → Int32 → Option (Int32 × PH)} {r : Int32} {h' : PH} (C : CT g RX10 cX10_all 7 (Cond.code yX10_all cX10_all 7 (some .int) :: TB) p s m args meth c) (hr : meth.sig.returnType = some .int) (k23 : ∀ {h : PH} {a0 : Nat} {x1 : Int32} {x2 : Int32} {x3 : Int32} {H : Heap} {locs : List Loc} {ls : Array Slot}, HS g s H locs h → r23 h a0 x1 x2 x3 = some (r, h') → lv_has ls 7 [(0, .ref (gB g + a0)), (1, .int x1), (2, .int x2), (3, .int x3)] → W p l e (rmD 15 0 0) s m args below meth c H locs 0 0 (MQ below (QcI g r h') args s 0 0 (aB g)) (F0 m 23 ls [])) {h : PH} {a0 : Nat} {x1 : Int32} {x2 : Int32} {x3 : Int32} {s0 : Int32} {H : Heap} {locs : List Loc} {ls : Array Slot} (hH : HS g s H locs h) (hf : mX10_all_b55 r23 h a0 x1 x2 x3 s0 = some (r, h')) (hl : lv_has ls 7 [(0, .ref (gB g + a0)), (1, .int x1), (2, .int x2), (3, .int x3)]) : W p l e (rmD 15 0 0) s m args below meth c H locs 0 0 (MQ below (QcI g r h') args s 0 0 (aB g)) (F0 m 55 ls [.int s0]) := by
  obtain ⟨⟨hx, hb, hml, hown, hts⟩, htb, hlk, hkk, hbs⟩ := id C
  unfold mX10_all_b55 at hf
  refine lv_istore (lv' := [(6, .int s0), (0, .ref (gB g + a0)), (1, .int x1), (2, .int x2), (3, .int x3)]) hx hb dX10_all_55 hl (by decide) rfl (fun ls hl => ?_)
  refine lv_iload_n hx hb dX10_all_57 rfl (lv_at hl 3 rfl) ?_
  refine lv_iload hx hb dX10_all_58 (lv_at hl 0 rfl) ?_
  refine lv_iload_n hx hb dX10_all_60 rfl (lv_at hl 2 rfl) ?_
  refine lv_icmp_ne (tgt := 70) hx hb dX10_all_61 (by decide) (fun cn => ?_) (fun cn => ?_)
  · have hf := (if_neg cn).symm.trans hf
    refine lv_iconst (v := (0 : Int32)) hx hb dX10_all_70 (by decide) ?_
    refine lv_ior hx hb dX10_all_71 ?_
    refine lv_istore_n (lv' := [(2, .int (x2 ||| (0 : Int32))), (6, .int s0), (0, .ref (gB g + a0)), (1, .int x1), (3, .int x3)]) hx hb dX10_all_72 rfl hl (by decide) rfl (fun ls hl => ?_)
    refine lv_iinc (v := (x3 + 1)) (lv' := [(3, .int (x3 + 1)), (2, .int (x2 ||| (0 : Int32))), (6, .int s0), (0, .ref (gB g + a0)), (1, .int x1)]) hx hb dX10_all_73 hl (k := 4) rfl rfl (by decide) rfl (fun ls hl => ?_)
    refine lv_goto (tgt := 23) hx hb dX10_all_76 (by decide) ?_
    exact k23 hH hf (lv_sub hl [3, 4, 1, 0] rfl)
  · have hf := (if_pos cn).symm.trans hf
    refine lv_iconst (v := (1 : Int32)) hx hb dX10_all_64 (by decide) ?_
    refine lv_iload_n hx hb dX10_all_65 rfl (lv_at hl 4 rfl) ?_
    refine lv_ishl hx hb dX10_all_66 ?_
    refine lv_goto (tgt := 71) hx hb dX10_all_67 (by decide) ?_
    refine lv_ior hx hb dX10_all_71 ?_
    refine lv_istore_n (lv' := [(2, .int (x2 ||| ((1 : Int32) <<< (x3 &&& 31)))), (6, .int s0), (0, .ref (gB g + a0)), (1, .int x1), (3, .int x3)]) hx hb dX10_all_72 rfl hl (by decide) rfl (fun ls hl => ?_)
    refine lv_iinc (v := (x3 + 1)) (lv' := [(3, .int (x3 + 1)), (2, .int (x2 ||| ((1 : Int32) <<< (x3 &&& 31)))), (6, .int s0), (0, .ref (gB g + a0)), (1, .int x1)]) hx hb dX10_all_73 hl (k := 4) rfl rfl (by decide) rfl (fun ls hl => ?_)
    refine lv_goto (tgt := 23) hx hb dX10_all_76 (by decide) ?_
    exact k23 hH hf (lv_sub hl [3, 4, 1, 0] rfl)
set_option maxHeartbeats 4000000 in
set_option maxRecDepth 100000 in
theorem wX10_all_b23 {r23 : PH → Nat → Int32 → Int32 → Int32 → Option (Int32 × PH)} {r : Int32} {h' : PH} (C : CT g RX10 cX10_all 7 (Cond.code yX10_all cX10_all 7 (some .int) :: TB) p s m args meth c) (hr : meth.sig.returnType = some .int) (k23 : ∀ {h : PH} {a0 : Nat} {x1 : Int32} {x2 : Int32} {x3 : Int32} {H : Heap} {locs : List Loc} {ls : Array Slot}, HS g s H locs h → r23 h a0 x1 x2 x3 = some (r, h') → lv_has ls 7 [(0, .ref (gB g + a0)), (1, .int x1), (2, .int x2), (3, .int x3)] → W p l e (rmD 15 0 0) s m args below meth c H locs 0 0 (MQ below (QcI g r h') args s 0 0 (aB g)) (F0 m 23 ls [])) {h : PH} {a0 : Nat} {x1 : Int32} {x2 : Int32} {x3 : Int32} {H : Heap} {locs : List Loc} {ls : Array Slot} (hH : HS g s H locs h) (hf : mX10_all_b23 r23 h a0 x1 x2 x3 = some (r, h')) (hl : lv_has ls 7 [(0, .ref (gB g + a0)), (1, .int x1), (2, .int x2), (3, .int x3)]) : W p l e (rmD 15 0 0) s m args below meth c H locs 0 0 (MQ below (QcI g r h') args s 0 0 (aB g)) (F0 m 23 ls []) := by
  obtain ⟨⟨hx, hb, hml, hown, hts⟩, htb, hlk, hkk, hbs⟩ := id C
  unfold mX10_all_b23 at hf
  refine lv_iload_n hx hb dX10_all_23 rfl (lv_at hl 3 rfl) ?_
  refine lv_aload_n hx hb dX10_all_24 rfl (lv_at hl 0 rfl) ?_
  refine pg_gR C hH fl_X10_13 hf dX10_all_25 (fun v25 hf => ?_)
  refine lv_iconst (v := (3 : Int32)) hx hb dX10_all_28 (by decide) ?_
  refine pg_aI C hH hf dX10_all_29 (fun v29 hf => ?_)
  refine lv_icmp_ge (tgt := 79) hx hb dX10_all_30 (by decide) (fun cn => ?_) (fun cn => ?_)
  · have hf := (if_pos cn).symm.trans hf
    refine lv_iload_n hx hb dX10_all_79 rfl (lv_at hl 2 rfl) ?_
    exact pg_iret C hr hH hf dX10_all_80
  · have hf := (if_neg cn).symm.trans hf
    refine lv_aload_n hx hb dX10_all_33 rfl (lv_at hl 0 rfl) ?_
    refine lv_iload_n hx hb dX10_all_34 rfl (lv_at hl 3 rfl) ?_
    refine pg_Vl (As := [.int x3]) C hH mi_X10_worthOf vl_X10_429 (q := (RX10, TX10, 34)) (ci := 10) rfl rfl hf (fun _ e1 => (oO_sp e1).1) (fun _ _ e1 => c_X10_worthOf e1) rfl rfl hl.1 (Nat.le_of_ble_eq_true rfl) ⟨Nat.le_of_ble_eq_true rfl, Nat.le_of_ble_eq_true rfl⟩ ⟨Nat.zero_le _, Nat.zero_le _⟩ dX10_all_35 (fun H locs v35 h35 hH hf => ?_)
    refine lv_lstore (lv' := [(4, .long v35), (0, .ref (gB g + a0)), (1, .int x1), (2, .int x2), (3, .int x3)]) hx hb dX10_all_38 hl (by decide) rfl (fun ls hl => ?_)
    refine lv_lload hx hb dX10_all_40 (lv_at hl 0 rfl) ?_
    refine lv_lconst (v := (0 : Int64)) hx hb dX10_all_42 (by decide) ?_
    refine W.lcmp hx hb dX10_all_43 ?_
    refine lv_if_ge (tgt := 51) hx hb dX10_all_44 (by decide) (fun cn => ?_) (fun cn => ?_)
    · have hf := (if_pos ((lg_cmp_ge _ _).mp cn)).symm.trans hf
      refine lv_aload_n hx hb dX10_all_51 rfl (lv_at hl 1 rfl) ?_
      refine pg_gI C hH fl_X10_420 hf dX10_all_52 (fun v52 hf => ?_)
      exact wX10_all_b55 C hr k23 hH hf (lv_sub hl [1, 2, 3, 4] rfl)
    · have hf := (if_neg (fun z => cn ((lg_cmp_ge _ _).mpr z))).symm.trans hf
      refine lv_iconst (v := (0 : Int32)) hx hb dX10_all_47 (by decide) ?_
      refine lv_goto (tgt := 55) hx hb dX10_all_48 (by decide) ?_
      exact wX10_all_b55 C hr k23 hH hf (lv_sub hl [1, 2, 3, 4] rfl)
set_option maxHeartbeats 4000000 in
set_option maxRecDepth 100000 in
theorem wX10_all_L23 {r : Int32} {h' : PH} (C : CT g RX10 cX10_all 7 (Cond.code yX10_all cX10_all 7 (some .int) :: TB) p s m args meth c) (hr : meth.sig.returnType = some .int) : ∀ (n : Nat) {h : PH} {a0 : Nat} {x1 : Int32} {x2 : Int32} {x3 : Int32} {H : Heap} {locs : List Loc} {ls : Array Slot}, HS g s H locs h → mX10_all_L23 n h a0 x1 x2 x3 = some (r, h') → lv_has ls 7 [(0, .ref (gB g + a0)), (1, .int x1), (2, .int x2), (3, .int x3)] → W p l e (rmD 15 0 0) s m args below meth c H locs 0 0 (MQ below (QcI g r h') args s 0 0 (aB g)) (F0 m 23 ls []) := by
  intro n
  induction n with
  | zero =>
    intro h a0 x1 x2 x3 H locs ls hH hf hl
    exact absurd hf (by intro z; cases z)
  | succ n ih =>
    intro h a0 x1 x2 x3 H locs ls hH hf hl
    have hf : mX10_all_b23 (mX10_all_L23 n) h a0 x1 x2 x3 = some (r, h') := hf
    exact wX10_all_b23 C hr (fun a b c => ih a b c) hH hf hl
set_option maxHeartbeats 4000000 in
set_option maxRecDepth 100000 in
theorem c_X10_all {l : Launch} {g : GD} {h : PH} {a0 : Nat} {x1 : Int32} {r : Int32} {h' : PH} (hf : mX10_all h a0 x1 = some (r, h')) : Met l yX10_all (Cond.code yX10_all cX10_all 7 (some .int) :: TB) (rmD 15 0 0) (PcH g [.ref (gB g + a0), .int x1] h) (QcI g r h') 0 0 (aB g) := by
  refine Met.ofW (cc := cX10_all) (maxL := 7) (ret := some .int) (by decide) rfl ?_
  intro p e s m args below meth c s₁ B hml hv
  obtain ⟨rfl, hH0, hkk0⟩ := hv
  have C : CT g RX10 cX10_all 7 (Cond.code yX10_all cX10_all 7 (some .int) :: TB) p s m _ meth c := pg_ct (Tw := []) B hml hH0 hkk0
  have hr := B.returns
  have hH : HS g s s.heap [] h := ⟨hH0, va_S.rf⟩
  have hl := lv_entry ([.ref (gB g + a0), .int x1]) (n := 7) (Nat.le_of_ble_eq_true rfl)
  rw [lg_entry_eq]
  generalize (lg_sl ([.ref (gB g + a0), .int x1]) ++ List.replicate (7 - (lg_sl ([.ref (gB g + a0), .int x1])).length) Slot.unset).toArray = ls at hl ⊢
  have hl : lv_has ls 7 [(0, .ref (gB g + a0)), (1, .int x1)] := hl
  show W p l e (rmD 15 0 0) _ _ _ _ _ _ _ _ _ _ _ _
  unfold mX10_all at hf
  obtain ⟨hO, hf⟩ := oO_sp hf
  obtain ⟨⟨hx, hb, hml, hown, hts⟩, htb, hlk, hkk, hbs⟩ := id C
  refine lv_aload_n hx hb dX10_all_0 rfl (lv_at hl 0 rfl) ?_
  refine lv_iconst (v := (0 : Int32)) hx hb dX10_all_1 (by decide) ?_
  refine pg_pI C hH fl_X10_1 fm_10_0 hf dX10_all_2 (fun H locs h2 hH hf => ?_)
  refine lv_iload_n hx hb dX10_all_5 rfl (lv_at hl 1 rfl) ?_
  refine lv_i2l (v := (Int32.toInt64 x1)) hx hb dX10_all_6 rfl ?_
  refine lv_lconst (v := (0 : Int64)) hx hb dX10_all_7 (by decide) ?_
  refine lv_ldc2 (v := (6 : Int64)) hx hb hown (hts _ (htb _ kl_X10_410)) dX10_all_8 ?_
  refine pg_Si (As := [.long (Int32.toInt64 x1), .long (0 : Int64), .long (6 : Int64)]) C hH mi_X10_within sl_X10_97 hf (fun _ _ e1 => c_X10_within e1) rfl rfl hl.1 (Nat.le_of_ble_eq_true rfl) ⟨Nat.le_of_ble_eq_true rfl, Nat.le_of_ble_eq_true rfl⟩ ⟨Nat.zero_le _, Nat.zero_le _⟩ dX10_all_11 (fun H locs v11 h11 hH hf => ?_)
  refine lv_if_ne (tgt := 19) hx hb dX10_all_14 (by decide) (fun cn => ?_) (fun cn => ?_)
  · have hf := (if_neg cn).symm.trans hf
    refine lv_iconst (v := (0 : Int32)) hx hb dX10_all_19 (by decide) ?_
    refine lv_istore_n (lv' := [(2, .int (0 : Int32)), (0, .ref (gB g + a0)), (1, .int x1)]) hx hb dX10_all_20 rfl hl (by decide) rfl (fun ls hl => ?_)
    refine lv_iconst (v := (0 : Int32)) hx hb dX10_all_21 (by decide) ?_
    refine lv_istore_n (lv' := [(3, .int (0 : Int32)), (2, .int (0 : Int32)), (0, .ref (gB g + a0)), (1, .int x1)]) hx hb dX10_all_22 rfl hl (by decide) rfl (fun ls hl => ?_)
    exact wX10_all_L23 C hr FU hH hf (lv_sub hl [2, 3, 1, 0] rfl)
  · have hf := (if_pos cn).symm.trans hf
    refine lv_iconst (v := (-1 : Int32)) hx hb dX10_all_17 (by decide) ?_
    exact pg_iret C hr hH hf dX10_all_18
set_option maxHeartbeats 4000000 in
set_option maxRecDepth 100000 in
theorem c_X10_says {l : Launch} {g : GD} {h : PH} {a0 : Nat} {x1 : Int32} {h' : PH} (hf : mX10_says h a0 x1 = some h') : Met l yX10_says (Cond.code yX10_says cX10_says 2 (none) :: TB) (rmD 0 0 0) (PcH g [.ref (gB g + a0), .int x1] h) (QcV g h') 0 0 (aB g) := by
  refine Met.ofW (cc := cX10_says) (maxL := 2) (ret := none) (by decide) rfl ?_
  intro p e s m args below meth c s₁ B hml hv
  obtain ⟨rfl, hH0, hkk0⟩ := hv
  have C : CT g RX10 cX10_says 2 (Cond.code yX10_says cX10_says 2 (none) :: TB) p s m _ meth c := pg_ct (Tw := []) B hml hH0 hkk0
  have hr := B.returns
  have hH : HS g s s.heap [] h := ⟨hH0, va_S.rf⟩
  have hl := lv_entry ([.ref (gB g + a0), .int x1]) (n := 2) (Nat.le_of_ble_eq_true rfl)
  rw [lg_entry_eq]
  generalize (lg_sl ([.ref (gB g + a0), .int x1]) ++ List.replicate (2 - (lg_sl ([.ref (gB g + a0), .int x1])).length) Slot.unset).toArray = ls at hl ⊢
  have hl : lv_has ls 2 [(0, .ref (gB g + a0)), (1, .int x1)] := hl
  show W p l e (rmD 0 0 0) _ _ _ _ _ _ _ _ _ _ _ _
  unfold mX10_says at hf
  obtain ⟨hO, hf⟩ := oO_sp hf
  obtain ⟨⟨hx, hb, hml, hown, hts⟩, htb, hlk, hkk, hbs⟩ := id C
  refine lv_aload_n hx hb dX10_says_0 rfl (lv_at hl 0 rfl) ?_
  refine pg_gR C hH fl_X10_56 hf dX10_says_1 (fun v1 hf => ?_)
  refine lv_aload_n hx hb dX10_says_4 rfl (lv_at hl 0 rfl) ?_
  refine pg_gI C hH fl_X10_435 hf dX10_says_5 (fun v5 hf => ?_)
  refine lv_iload_n hx hb dX10_says_8 rfl (lv_at hl 1 rfl) ?_
  refine pg_sI C hH hf dX10_says_9 (fun H locs h9 hH hf => ?_)
  refine lv_aload_n hx hb dX10_says_10 rfl (lv_at hl 0 rfl) ?_
  refine lv_dup hx hb dX10_says_11 rfl ?_
  refine pg_gI C hH fl_X10_435 hf dX10_says_12 (fun v12 hf => ?_)
  refine lv_iconst (v := (1 : Int32)) hx hb dX10_says_15 (by decide) ?_
  refine lv_iadd hx hb dX10_says_16 ?_
  refine pg_pI C hH fl_X10_435 fm_10_33 hf dX10_says_17 (fun H locs h17 hH hf => ?_)
  exact pg_vret C hr hH hf dX10_says_20
set_option maxHeartbeats 4000000 in
set_option maxRecDepth 100000 in
theorem wX10_saysWord_b3 {r3 : PH → Nat → Int64 → Int32 → Option (PH)} {h' : PH} (C : CT g RX10 cX10_saysWord 5 (Cond.code yX10_saysWord cX10_saysWord 5 (none) :: TB) p s m args meth c) (hr : meth.sig.returnType = none) (k3 : ∀ {h : PH} {a0 : Nat} {x1 : Int64} {x3 : Int32} {H : Heap} {locs : List Loc} {ls : Array Slot}, HS g s H locs h → r3 h a0 x1 x3 = some h' → lv_has ls 5 [(0, .ref (gB g + a0)), (1, .long x1), (3, .int x3)] → W p l e (rmD 1 0 0) s m args below meth c H locs 0 0 (MQ below (QcV g h') args s 0 0 (aB g)) (F0 m 3 ls [])) {h : PH} {a0 : Nat} {x1 : Int64} {x3 : Int32} {H : Heap} {locs : List Loc} {ls : Array Slot} (hH : HS g s H locs h) (hf : mX10_saysWord_b3 r3 h a0 x1 x3 = some h') (hl : lv_has ls 5 [(0, .ref (gB g + a0)), (1, .long x1), (3, .int x3)]) : W p l e (rmD 1 0 0) s m args below meth c H locs 0 0 (MQ below (QcV g h') args s 0 0 (aB g)) (F0 m 3 ls []) := by
  obtain ⟨⟨hx, hb, hml, hown, hts⟩, htb, hlk, hkk, hbs⟩ := id C
  unfold mX10_saysWord_b3 at hf
  refine lv_iload_n hx hb dX10_saysWord_3 rfl (lv_at hl 2 rfl) ?_
  refine lv_if_lt (tgt := 37) hx hb dX10_saysWord_4 (by decide) (fun cn => ?_) (fun cn => ?_)
  · have hf := (if_pos cn).symm.trans hf
    refine lv_aload_n hx hb dX10_saysWord_37 rfl (lv_at hl 0 rfl) ?_
    refine lv_bipush (v := (32 : Int32)) hx hb dX10_saysWord_38 (by decide) ?_
    refine pg_Vv (As := [.int (32 : Int32)]) C hH mi_X10_says vl_X10_440 (q := (RX10, TX10, 34)) (ci := 10) rfl rfl hf (fun _ e1 => (oO_sp e1).1) (fun _ e1 => c_X10_says e1) rfl rfl hl.1 (Nat.le_of_ble_eq_true rfl) ⟨Nat.le_of_ble_eq_true rfl, Nat.le_of_ble_eq_true rfl⟩ ⟨Nat.zero_le _, Nat.zero_le _⟩ dX10_saysWord_40 (fun H locs h40 hH hf => ?_)
    exact pg_vret C hr hH hf dX10_saysWord_43
  · have hf := (if_neg cn).symm.trans hf
    refine lv_lload_n hx hb dX10_saysWord_7 rfl (lv_at hl 1 rfl) ?_
    refine lv_iload_n hx hb dX10_saysWord_8 rfl (lv_at hl 2 rfl) ?_
    refine lv_lshr (v := (x1 >>> (x3.toInt64 &&& 63))) hx hb dX10_saysWord_9 rfl ?_
    refine lv_ldc2 (v := (31 : Int64)) hx hb hown (hts _ (htb _ kl_X10_438)) dX10_saysWord_10 ?_
    refine lv_land hx hb dX10_saysWord_13 ?_
    refine lv_l2i (v := (Int64.toInt32 ((x1 >>> (x3.toInt64 &&& 63)) &&& (31 : Int64)))) hx hb dX10_saysWord_14 rfl ?_
    refine lv_istore (lv' := [(4, .int (Int64.toInt32 ((x1 >>> (x3.toInt64 &&& 63)) &&& (31 : Int64)))), (0, .ref (gB g + a0)), (1, .long x1), (3, .int x3)]) hx hb dX10_saysWord_15 hl (by decide) rfl (fun ls hl => ?_)
    refine lv_iload hx hb dX10_saysWord_17 (lv_at hl 0 rfl) ?_
    refine lv_if_le (tgt := 31) hx hb dX10_saysWord_19 (by decide) (fun cn => ?_) (fun cn => ?_)
    · have hf := (if_pos cn).symm.trans hf
      refine lv_iinc (v := (x3 + (-5))) (lv' := [(3, .int (x3 + (-5))), (4, .int (Int64.toInt32 ((x1 >>> (x3.toInt64 &&& 63)) &&& (31 : Int64)))), (0, .ref (gB g + a0)), (1, .long x1)]) hx hb dX10_saysWord_31 hl (k := 3) rfl rfl (by decide) rfl (fun ls hl => ?_)
      refine lv_goto (tgt := 3) hx hb dX10_saysWord_34 (by decide) ?_
      exact k3 hH hf (lv_sub hl [2, 3, 0] rfl)
    · have hf := (if_neg cn).symm.trans hf
      refine lv_aload_n hx hb dX10_saysWord_22 rfl (lv_at hl 1 rfl) ?_
      refine lv_bipush (v := (96 : Int32)) hx hb dX10_saysWord_23 (by decide) ?_
      refine lv_iload hx hb dX10_saysWord_25 (lv_at hl 0 rfl) ?_
      refine lv_iadd hx hb dX10_saysWord_27 ?_
      refine pg_Vv (As := [.int ((96 : Int32) + (Int64.toInt32 ((x1 >>> (x3.toInt64 &&& 63)) &&& (31 : Int64))))]) C hH mi_X10_says vl_X10_440 (q := (RX10, TX10, 34)) (ci := 10) rfl rfl hf (fun _ e1 => (oO_sp e1).1) (fun _ e1 => c_X10_says e1) rfl rfl hl.1 (Nat.le_of_ble_eq_true rfl) ⟨Nat.le_of_ble_eq_true rfl, Nat.le_of_ble_eq_true rfl⟩ ⟨Nat.zero_le _, Nat.zero_le _⟩ dX10_saysWord_28 (fun H locs h28 hH hf => ?_)
      refine lv_iinc (v := (x3 + (-5))) (lv' := [(3, .int (x3 + (-5))), (4, .int (Int64.toInt32 ((x1 >>> (x3.toInt64 &&& 63)) &&& (31 : Int64)))), (0, .ref (gB g + a0)), (1, .long x1)]) hx hb dX10_saysWord_31 hl (k := 3) rfl rfl (by decide) rfl (fun ls hl => ?_)
      refine lv_goto (tgt := 3) hx hb dX10_saysWord_34 (by decide) ?_
      exact k3 hH hf (lv_sub hl [2, 3, 0] rfl)
set_option maxHeartbeats 4000000 in
set_option maxRecDepth 100000 in
theorem wX10_saysWord_L3 {h' : PH} (C : CT g RX10 cX10_saysWord 5 (Cond.code yX10_saysWord cX10_saysWord 5 (none) :: TB) p s m args meth c) (hr : meth.sig.returnType = none) : ∀ (n : Nat) {h : PH} {a0 : Nat} {x1 : Int64} {x3 : Int32} {H : Heap} {locs : List Loc} {ls : Array Slot}, HS g s H locs h → mX10_saysWord_L3 n h a0 x1 x3 = some h' → lv_has ls 5 [(0, .ref (gB g + a0)), (1, .long x1), (3, .int x3)] → W p l e (rmD 1 0 0) s m args below meth c H locs 0 0 (MQ below (QcV g h') args s 0 0 (aB g)) (F0 m 3 ls []) := by
  intro n
  induction n with
  | zero =>
    intro h a0 x1 x3 H locs ls hH hf hl
    exact absurd hf (by intro z; cases z)
  | succ n ih =>
    intro h a0 x1 x3 H locs ls hH hf hl
    have hf : mX10_saysWord_b3 (mX10_saysWord_L3 n) h a0 x1 x3 = some h' := hf
    exact wX10_saysWord_b3 C hr (fun a b c => ih a b c) hH hf hl
set_option maxHeartbeats 4000000 in
set_option maxRecDepth 100000 in
theorem c_X10_saysWord {l : Launch} {g : GD} {h : PH} {a0 : Nat} {x1 : Int64} {h' : PH} (hf : mX10_saysWord h a0 x1 = some h') : Met l yX10_saysWord (Cond.code yX10_saysWord cX10_saysWord 5 (none) :: TB) (rmD 1 0 0) (PcH g [.ref (gB g + a0), .long x1] h) (QcV g h') 0 0 (aB g) := by
  refine Met.ofW (cc := cX10_saysWord) (maxL := 5) (ret := none) (by decide) rfl ?_
  intro p e s m args below meth c s₁ B hml hv
  obtain ⟨rfl, hH0, hkk0⟩ := hv
  have C : CT g RX10 cX10_saysWord 5 (Cond.code yX10_saysWord cX10_saysWord 5 (none) :: TB) p s m _ meth c := pg_ct (Tw := []) B hml hH0 hkk0
  have hr := B.returns
  have hH : HS g s s.heap [] h := ⟨hH0, va_S.rf⟩
  have hl := lv_entry ([.ref (gB g + a0), .long x1]) (n := 5) (Nat.le_of_ble_eq_true rfl)
  rw [lg_entry_eq]
  generalize (lg_sl ([.ref (gB g + a0), .long x1]) ++ List.replicate (5 - (lg_sl ([.ref (gB g + a0), .long x1])).length) Slot.unset).toArray = ls at hl ⊢
  have hl : lv_has ls 5 [(0, .ref (gB g + a0)), (1, .long x1)] := hl
  show W p l e (rmD 1 0 0) _ _ _ _ _ _ _ _ _ _ _ _
  unfold mX10_saysWord at hf
  obtain ⟨hO, hf⟩ := oO_sp hf
  obtain ⟨⟨hx, hb, hml, hown, hts⟩, htb, hlk, hkk, hbs⟩ := id C
  refine lv_bipush (v := (30 : Int32)) hx hb dX10_saysWord_0 (by decide) ?_
  refine lv_istore_n (lv' := [(3, .int (30 : Int32)), (0, .ref (gB g + a0)), (1, .long x1)]) hx hb dX10_saysWord_2 rfl hl (by decide) rfl (fun ls hl => ?_)
  exact wX10_saysWord_L3 C hr FU hH hf (lv_sub hl [1, 2, 0] rfl)
set_option maxHeartbeats 4000000 in
set_option maxRecDepth 100000 in
theorem wX10_saysNumber_b21 {r21 : PH → Nat → Int64 → Int64 → Option (PH)} {h' : PH} (C : CT g RX10 cX10_saysNumber 5 (Cond.code yX10_saysNumber cX10_saysNumber 5 (none) :: TB) p s m args meth c) (hr : meth.sig.returnType = none) (k21 : ∀ {h : PH} {a0 : Nat} {x1 : Int64} {x3 : Int64} {H : Heap} {locs : List Loc} {ls : Array Slot}, HS g s H locs h → r21 h a0 x1 x3 = some h' → lv_has ls 5 [(0, .ref (gB g + a0)), (1, .long x1), (3, .long x3)] → W p l e (rmD 1 0 0) s m args below meth c H locs 0 0 (MQ below (QcV g h') args s 0 0 (aB g)) (F0 m 21 ls [])) {h : PH} {a0 : Nat} {x1 : Int64} {x3 : Int64} {H : Heap} {locs : List Loc} {ls : Array Slot} (hH : HS g s H locs h) (hf : mX10_saysNumber_b21 r21 h a0 x1 x3 = some h') (hl : lv_has ls 5 [(0, .ref (gB g + a0)), (1, .long x1), (3, .long x3)]) : W p l e (rmD 1 0 0) s m args below meth c H locs 0 0 (MQ below (QcV g h') args s 0 0 (aB g)) (F0 m 21 ls []) := by
  obtain ⟨⟨hx, hb, hml, hown, hts⟩, htb, hlk, hkk, hbs⟩ := id C
  unfold mX10_saysNumber_b21 at hf
  refine lv_lload_n hx hb dX10_saysNumber_21 rfl (lv_at hl 2 rfl) ?_
  refine lv_lconst (v := (0 : Int64)) hx hb dX10_saysNumber_22 (by decide) ?_
  refine W.lcmp hx hb dX10_saysNumber_23 ?_
  refine lv_if_le (tgt := 51) hx hb dX10_saysNumber_24 (by decide) (fun cn => ?_) (fun cn => ?_)
  · have hf := (if_pos ((lg_cmp_le _ _).mp cn)).symm.trans hf
    refine lv_aload_n hx hb dX10_saysNumber_51 rfl (lv_at hl 0 rfl) ?_
    refine lv_bipush (v := (32 : Int32)) hx hb dX10_saysNumber_52 (by decide) ?_
    refine pg_Vv (As := [.int (32 : Int32)]) C hH mi_X10_says vl_X10_440 (q := (RX10, TX10, 34)) (ci := 10) rfl rfl hf (fun _ e1 => (oO_sp e1).1) (fun _ e1 => c_X10_says e1) rfl rfl hl.1 (Nat.le_of_ble_eq_true rfl) ⟨Nat.le_of_ble_eq_true rfl, Nat.le_of_ble_eq_true rfl⟩ ⟨Nat.zero_le _, Nat.zero_le _⟩ dX10_saysNumber_54 (fun H locs h54 hH hf => ?_)
    exact pg_vret C hr hH hf dX10_saysNumber_57
  · have hf := (if_neg (fun z => cn ((lg_cmp_le _ _).mpr z))).symm.trans hf
    refine lv_aload_n hx hb dX10_saysNumber_27 rfl (lv_at hl 0 rfl) ?_
    refine lv_bipush (v := (48 : Int32)) hx hb dX10_saysNumber_28 (by decide) ?_
    refine lv_lload_n hx hb dX10_saysNumber_30 rfl (lv_at hl 1 rfl) ?_
    refine lv_lload_n hx hb dX10_saysNumber_31 rfl (lv_at hl 2 rfl) ?_
    obtain ⟨hz32, hf⟩ := dz_sp hf
    refine lv_ldiv hx hb dX10_saysNumber_32 hz32 ?_
    refine lv_ldc2 (v := (10 : Int64)) hx hb hown (hts _ (htb _ kl_X10_443)) dX10_saysNumber_33 ?_
    refine lv_lrem hx hb dX10_saysNumber_36 (by decide) ?_
    refine lv_l2i (v := (Int64.toInt32 ((x1 / x3) - (x1 / x3) / (10 : Int64) * (10 : Int64)))) hx hb dX10_saysNumber_37 rfl ?_
    refine lv_iadd hx hb dX10_saysNumber_38 ?_
    refine pg_Vv (As := [.int ((48 : Int32) + (Int64.toInt32 ((x1 / x3) - (x1 / x3) / (10 : Int64) * (10 : Int64))))]) C hH mi_X10_says vl_X10_440 (q := (RX10, TX10, 34)) (ci := 10) rfl rfl hf (fun _ e1 => (oO_sp e1).1) (fun _ e1 => c_X10_says e1) rfl rfl hl.1 (Nat.le_of_ble_eq_true rfl) ⟨Nat.le_of_ble_eq_true rfl, Nat.le_of_ble_eq_true rfl⟩ ⟨Nat.zero_le _, Nat.zero_le _⟩ dX10_saysNumber_39 (fun H locs h39 hH hf => ?_)
    refine lv_lload_n hx hb dX10_saysNumber_42 rfl (lv_at hl 2 rfl) ?_
    refine lv_ldc2 (v := (10 : Int64)) hx hb hown (hts _ (htb _ kl_X10_443)) dX10_saysNumber_43 ?_
    refine lv_ldiv hx hb dX10_saysNumber_46 (by decide) ?_
    refine lv_lstore_n (lv' := [(3, .long (x3 / (10 : Int64))), (0, .ref (gB g + a0)), (1, .long x1)]) hx hb dX10_saysNumber_47 rfl hl (by decide) rfl (fun ls hl => ?_)
    refine lv_goto (tgt := 21) hx hb dX10_saysNumber_48 (by decide) ?_
    exact k21 hH hf (lv_sub hl [1, 2, 0] rfl)
set_option maxHeartbeats 4000000 in
set_option maxRecDepth 100000 in
theorem wX10_saysNumber_L21 {h' : PH} (C : CT g RX10 cX10_saysNumber 5 (Cond.code yX10_saysNumber cX10_saysNumber 5 (none) :: TB) p s m args meth c) (hr : meth.sig.returnType = none) : ∀ (n : Nat) {h : PH} {a0 : Nat} {x1 : Int64} {x3 : Int64} {H : Heap} {locs : List Loc} {ls : Array Slot}, HS g s H locs h → mX10_saysNumber_L21 n h a0 x1 x3 = some h' → lv_has ls 5 [(0, .ref (gB g + a0)), (1, .long x1), (3, .long x3)] → W p l e (rmD 1 0 0) s m args below meth c H locs 0 0 (MQ below (QcV g h') args s 0 0 (aB g)) (F0 m 21 ls []) := by
  intro n
  induction n with
  | zero =>
    intro h a0 x1 x3 H locs ls hH hf hl
    exact absurd hf (by intro z; cases z)
  | succ n ih =>
    intro h a0 x1 x3 H locs ls hH hf hl
    have hf : mX10_saysNumber_b21 (mX10_saysNumber_L21 n) h a0 x1 x3 = some h' := hf
    exact wX10_saysNumber_b21 C hr (fun a b c => ih a b c) hH hf hl
set_option maxHeartbeats 4000000 in
set_option maxRecDepth 100000 in
theorem wX10_saysNumber_b2 {r2 : PH → Nat → Int64 → Int64 → Option (PH)} {h' : PH} (C : CT g RX10 cX10_saysNumber 5 (Cond.code yX10_saysNumber cX10_saysNumber 5 (none) :: TB) p s m args meth c) (hr : meth.sig.returnType = none) (k2 : ∀ {h : PH} {a0 : Nat} {x1 : Int64} {x3 : Int64} {H : Heap} {locs : List Loc} {ls : Array Slot}, HS g s H locs h → r2 h a0 x1 x3 = some h' → lv_has ls 5 [(0, .ref (gB g + a0)), (1, .long x1), (3, .long x3)] → W p l e (rmD 1 0 0) s m args below meth c H locs 0 0 (MQ below (QcV g h') args s 0 0 (aB g)) (F0 m 2 ls [])) {h : PH} {a0 : Nat} {x1 : Int64} {x3 : Int64} {H : Heap} {locs : List Loc} {ls : Array Slot} (hH : HS g s H locs h) (hf : mX10_saysNumber_b2 r2 h a0 x1 x3 = some h') (hl : lv_has ls 5 [(0, .ref (gB g + a0)), (1, .long x1), (3, .long x3)]) : W p l e (rmD 1 0 0) s m args below meth c H locs 0 0 (MQ below (QcV g h') args s 0 0 (aB g)) (F0 m 2 ls []) := by
  obtain ⟨⟨hx, hb, hml, hown, hts⟩, htb, hlk, hkk, hbs⟩ := id C
  unfold mX10_saysNumber_b2 at hf
  refine lv_lload_n hx hb dX10_saysNumber_2 rfl (lv_at hl 1 rfl) ?_
  refine lv_lload_n hx hb dX10_saysNumber_3 rfl (lv_at hl 2 rfl) ?_
  obtain ⟨hz4, hf⟩ := dz_sp hf
  refine lv_ldiv hx hb dX10_saysNumber_4 hz4 ?_
  refine lv_ldc2 (v := (10 : Int64)) hx hb hown (hts _ (htb _ kl_X10_443)) dX10_saysNumber_5 ?_
  refine W.lcmp hx hb dX10_saysNumber_8 ?_
  refine lv_if_lt (tgt := 21) hx hb dX10_saysNumber_9 (by decide) (fun cn => ?_) (fun cn => ?_)
  · have hf := (if_pos ((lg_cmp_lt _ _).mp cn)).symm.trans hf
    exact wX10_saysNumber_L21 C hr FU hH hf (lv_sub hl [0, 1, 2] rfl)
  · have hf := (if_neg (fun z => cn ((lg_cmp_lt _ _).mpr z))).symm.trans hf
    refine lv_lload_n hx hb dX10_saysNumber_12 rfl (lv_at hl 2 rfl) ?_
    refine lv_ldc2 (v := (10 : Int64)) hx hb hown (hts _ (htb _ kl_X10_443)) dX10_saysNumber_13 ?_
    refine lv_lmul hx hb dX10_saysNumber_16 ?_
    refine lv_lstore_n (lv' := [(3, .long (x3 * (10 : Int64))), (0, .ref (gB g + a0)), (1, .long x1)]) hx hb dX10_saysNumber_17 rfl hl (by decide) rfl (fun ls hl => ?_)
    refine lv_goto (tgt := 2) hx hb dX10_saysNumber_18 (by decide) ?_
    exact k2 hH hf (lv_sub hl [1, 2, 0] rfl)
set_option maxHeartbeats 4000000 in
set_option maxRecDepth 100000 in
theorem wX10_saysNumber_L2 {h' : PH} (C : CT g RX10 cX10_saysNumber 5 (Cond.code yX10_saysNumber cX10_saysNumber 5 (none) :: TB) p s m args meth c) (hr : meth.sig.returnType = none) : ∀ (n : Nat) {h : PH} {a0 : Nat} {x1 : Int64} {x3 : Int64} {H : Heap} {locs : List Loc} {ls : Array Slot}, HS g s H locs h → mX10_saysNumber_L2 n h a0 x1 x3 = some h' → lv_has ls 5 [(0, .ref (gB g + a0)), (1, .long x1), (3, .long x3)] → W p l e (rmD 1 0 0) s m args below meth c H locs 0 0 (MQ below (QcV g h') args s 0 0 (aB g)) (F0 m 2 ls []) := by
  intro n
  induction n with
  | zero =>
    intro h a0 x1 x3 H locs ls hH hf hl
    exact absurd hf (by intro z; cases z)
  | succ n ih =>
    intro h a0 x1 x3 H locs ls hH hf hl
    have hf : mX10_saysNumber_b2 (mX10_saysNumber_L2 n) h a0 x1 x3 = some h' := hf
    exact wX10_saysNumber_b2 C hr (fun a b c => ih a b c) hH hf hl
set_option maxHeartbeats 4000000 in
set_option maxRecDepth 100000 in
theorem c_X10_saysNumber {l : Launch} {g : GD} {h : PH} {a0 : Nat} {x1 : Int64} {h' : PH} (hf : mX10_saysNumber h a0 x1 = some h') : Met l yX10_saysNumber (Cond.code yX10_saysNumber cX10_saysNumber 5 (none) :: TB) (rmD 1 0 0) (PcH g [.ref (gB g + a0), .long x1] h) (QcV g h') 0 0 (aB g) := by
  refine Met.ofW (cc := cX10_saysNumber) (maxL := 5) (ret := none) (by decide) rfl ?_
  intro p e s m args below meth c s₁ B hml hv
  obtain ⟨rfl, hH0, hkk0⟩ := hv
  have C : CT g RX10 cX10_saysNumber 5 (Cond.code yX10_saysNumber cX10_saysNumber 5 (none) :: TB) p s m _ meth c := pg_ct (Tw := []) B hml hH0 hkk0
  have hr := B.returns
  have hH : HS g s s.heap [] h := ⟨hH0, va_S.rf⟩
  have hl := lv_entry ([.ref (gB g + a0), .long x1]) (n := 5) (Nat.le_of_ble_eq_true rfl)
  rw [lg_entry_eq]
  generalize (lg_sl ([.ref (gB g + a0), .long x1]) ++ List.replicate (5 - (lg_sl ([.ref (gB g + a0), .long x1])).length) Slot.unset).toArray = ls at hl ⊢
  have hl : lv_has ls 5 [(0, .ref (gB g + a0)), (1, .long x1)] := hl
  show W p l e (rmD 1 0 0) _ _ _ _ _ _ _ _ _ _ _ _
  unfold mX10_saysNumber at hf
  obtain ⟨hO, hf⟩ := oO_sp hf
  obtain ⟨⟨hx, hb, hml, hown, hts⟩, htb, hlk, hkk, hbs⟩ := id C
  refine lv_lconst (v := (1 : Int64)) hx hb dX10_saysNumber_0 (by decide) ?_
  refine lv_lstore_n (lv' := [(3, .long (1 : Int64)), (0, .ref (gB g + a0)), (1, .long x1)]) hx hb dX10_saysNumber_1 rfl hl (by decide) rfl (fun ls hl => ?_)
  exact wX10_saysNumber_L2 C hr FU hH hf (lv_sub hl [1, 2, 0] rfl)
set_option maxHeartbeats 4000000 in
set_option maxRecDepth 100000 in
theorem wX10_report_b82 {r12 : PH → Nat → Int32 → Int32 → Option (Int32 × PH)} {r : Int32} {h' : PH} (C : CT g RX10 cX10_report 5 (Cond.code yX10_report cX10_report 5 (some .int) :: TB) p s m args meth c) (hr : meth.sig.returnType = some .int) (k12 : ∀ {h : PH} {a0 : Nat} {x1 : Int32} {x2 : Int32} {H : Heap} {locs : List Loc} {ls : Array Slot}, HS g s H locs h → r12 h a0 x1 x2 = some (r, h') → lv_has ls 5 [(0, .ref (gB g + a0)), (1, .int x1), (2, .int x2)] → W p l e (rmD 15 0 0) s m args below meth c H locs 0 0 (MQ below (QcI g r h') args s 0 0 (aB g)) (F0 m 12 ls [])) {h : PH} {a0 : Nat} {x1 : Int32} {x2 : Int32} {H : Heap} {locs : List Loc} {ls : Array Slot} (hH : HS g s H locs h) (hf : mX10_report_b82 r12 h a0 x1 x2 = some (r, h')) (hl : lv_has ls 5 [(0, .ref (gB g + a0)), (1, .int x1), (2, .int x2)]) : W p l e (rmD 15 0 0) s m args below meth c H locs 0 0 (MQ below (QcI g r h') args s 0 0 (aB g)) (F0 m 82 ls []) := by
  obtain ⟨⟨hx, hb, hml, hown, hts⟩, htb, hlk, hkk, hbs⟩ := id C
  unfold mX10_report_b82 at hf
  refine lv_aload_n hx hb dX10_report_82 rfl (lv_at hl 0 rfl) ?_
  refine lv_bipush (v := (59 : Int32)) hx hb dX10_report_83 (by decide) ?_
  refine pg_Vv (As := [.int (59 : Int32)]) C hH mi_X10_says vl_X10_440 (q := (RX10, TX10, 34)) (ci := 10) rfl rfl hf (fun _ e1 => (oO_sp e1).1) (fun _ e1 => c_X10_says e1) rfl rfl hl.1 (Nat.le_of_ble_eq_true rfl) ⟨Nat.le_of_ble_eq_true rfl, Nat.le_of_ble_eq_true rfl⟩ ⟨Nat.zero_le _, Nat.zero_le _⟩ dX10_report_85 (fun H locs h85 hH hf => ?_)
  refine lv_aload_n hx hb dX10_report_88 rfl (lv_at hl 0 rfl) ?_
  refine lv_bipush (v := (32 : Int32)) hx hb dX10_report_89 (by decide) ?_
  refine pg_Vv (As := [.int (32 : Int32)]) C hH mi_X10_says vl_X10_440 (q := (RX10, TX10, 34)) (ci := 10) rfl rfl hf (fun _ e1 => (oO_sp e1).1) (fun _ e1 => c_X10_says e1) rfl rfl hl.1 (Nat.le_of_ble_eq_true rfl) ⟨Nat.le_of_ble_eq_true rfl, Nat.le_of_ble_eq_true rfl⟩ ⟨Nat.zero_le _, Nat.zero_le _⟩ dX10_report_91 (fun H locs h91 hH hf => ?_)
  refine lv_iinc (v := (x2 + 1)) (lv' := [(2, .int (x2 + 1)), (0, .ref (gB g + a0)), (1, .int x1)]) hx hb dX10_report_94 hl (k := 2) rfl rfl (by decide) rfl (fun ls hl => ?_)
  refine lv_goto (tgt := 12) hx hb dX10_report_97 (by decide) ?_
  exact k12 hH hf (lv_sub hl [1, 2, 0] rfl)
set_option maxHeartbeats 4000000 in
set_option maxRecDepth 100000 in
theorem wX10_report_b12 {r12 : PH → Nat → Int32 → Int32 → Option (Int32 × PH)} {r : Int32} {h' : PH} (C : CT g RX10 cX10_report 5 (Cond.code yX10_report cX10_report 5 (some .int) :: TB) p s m args meth c) (hr : meth.sig.returnType = some .int) (k12 : ∀ {h : PH} {a0 : Nat} {x1 : Int32} {x2 : Int32} {H : Heap} {locs : List Loc} {ls : Array Slot}, HS g s H locs h → r12 h a0 x1 x2 = some (r, h') → lv_has ls 5 [(0, .ref (gB g + a0)), (1, .int x1), (2, .int x2)] → W p l e (rmD 15 0 0) s m args below meth c H locs 0 0 (MQ below (QcI g r h') args s 0 0 (aB g)) (F0 m 12 ls [])) {h : PH} {a0 : Nat} {x1 : Int32} {x2 : Int32} {H : Heap} {locs : List Loc} {ls : Array Slot} (hH : HS g s H locs h) (hf : mX10_report_b12 r12 h a0 x1 x2 = some (r, h')) (hl : lv_has ls 5 [(0, .ref (gB g + a0)), (1, .int x1), (2, .int x2)]) : W p l e (rmD 15 0 0) s m args below meth c H locs 0 0 (MQ below (QcI g r h') args s 0 0 (aB g)) (F0 m 12 ls []) := by
  obtain ⟨⟨hx, hb, hml, hown, hts⟩, htb, hlk, hkk, hbs⟩ := id C
  unfold mX10_report_b12 at hf
  refine lv_iload_n hx hb dX10_report_12 rfl (lv_at hl 2 rfl) ?_
  refine lv_aload_n hx hb dX10_report_13 rfl (lv_at hl 0 rfl) ?_
  refine pg_gR C hH fl_X10_13 hf dX10_report_14 (fun v14 hf => ?_)
  refine lv_iconst (v := (3 : Int32)) hx hb dX10_report_17 (by decide) ?_
  refine pg_aI C hH hf dX10_report_18 (fun v18 hf => ?_)
  refine lv_icmp_ge (tgt := 100) hx hb dX10_report_19 (by decide) (fun cn => ?_) (fun cn => ?_)
  · have hf := (if_pos cn).symm.trans hf
    refine lv_iload_n hx hb dX10_report_100 rfl (lv_at hl 1 rfl) ?_
    refine lv_iconst (v := (-1 : Int32)) hx hb dX10_report_101 (by decide) ?_
    refine lv_icmp_ne (tgt := 112) hx hb dX10_report_102 (by decide) (fun cn => ?_) (fun cn => ?_)
    · have hf := (if_neg cn).symm.trans hf
      refine lv_iload_n hx hb dX10_report_112 rfl (lv_at hl 1 rfl) ?_
      refine lv_iconst (v := (-1 : Int32)) hx hb dX10_report_113 (by decide) ?_
      refine lv_icmp_ge (tgt := 121) hx hb dX10_report_114 (by decide) (fun cn => ?_) (fun cn => ?_)
      · have hf := (if_pos cn).symm.trans hf
        refine lv_iload_n hx hb dX10_report_121 rfl (lv_at hl 1 rfl) ?_
        refine lv_aload_n hx hb dX10_report_122 rfl (lv_at hl 0 rfl) ?_
        refine pg_gI C hH fl_X10_435 hf dX10_report_123 (fun v123 hf => ?_)
        refine lv_icmp_ge (tgt := 138) hx hb dX10_report_126 (by decide) (fun cn => ?_) (fun cn => ?_)
        · have hf := (if_pos cn).symm.trans hf
          refine lv_bipush (v := (-2 : Int32)) hx hb dX10_report_138 (by decide) ?_
          exact pg_iret C hr hH hf dX10_report_140
        · have hf := (if_neg cn).symm.trans hf
          refine lv_aload_n hx hb dX10_report_129 rfl (lv_at hl 0 rfl) ?_
          refine pg_gR C hH fl_X10_56 hf dX10_report_130 (fun v130 hf => ?_)
          refine lv_iload_n hx hb dX10_report_133 rfl (lv_at hl 1 rfl) ?_
          refine pg_aI C hH hf dX10_report_134 (fun v134 hf => ?_)
          refine lv_goto (tgt := 140) hx hb dX10_report_135 (by decide) ?_
          exact pg_iret C hr hH hf dX10_report_140
      · have hf := (if_neg cn).symm.trans hf
        refine lv_iconst (v := (-1 : Int32)) hx hb dX10_report_117 (by decide) ?_
        refine lv_goto (tgt := 140) hx hb dX10_report_118 (by decide) ?_
        exact pg_iret C hr hH hf dX10_report_140
    · have hf := (if_pos cn).symm.trans hf
      refine lv_aload_n hx hb dX10_report_105 rfl (lv_at hl 0 rfl) ?_
      refine pg_gI C hH fl_X10_435 hf dX10_report_106 (fun v106 hf => ?_)
      refine lv_goto (tgt := 140) hx hb dX10_report_109 (by decide) ?_
      exact pg_iret C hr hH hf dX10_report_140
  · have hf := (if_neg cn).symm.trans hf
    refine lv_aload_n hx hb dX10_report_22 rfl (lv_at hl 0 rfl) ?_
    refine lv_iload_n hx hb dX10_report_23 rfl (lv_at hl 2 rfl) ?_
    refine pg_Vl (As := [.int x2]) C hH mi_X10_worthOf vl_X10_429 (q := (RX10, TX10, 34)) (ci := 10) rfl rfl hf (fun _ e1 => (oO_sp e1).1) (fun _ _ e1 => c_X10_worthOf e1) rfl rfl hl.1 (Nat.le_of_ble_eq_true rfl) ⟨Nat.le_of_ble_eq_true rfl, Nat.le_of_ble_eq_true rfl⟩ ⟨Nat.zero_le _, Nat.zero_le _⟩ dX10_report_24 (fun H locs v24 h24 hH hf => ?_)
    refine lv_lstore_n (lv' := [(3, .long v24), (0, .ref (gB g + a0)), (1, .int x1), (2, .int x2)]) hx hb dX10_report_27 rfl hl (by decide) rfl (fun ls hl => ?_)
    refine lv_aload_n hx hb dX10_report_28 rfl (lv_at hl 1 rfl) ?_
    refine lv_aload_n hx hb dX10_report_29 rfl (lv_at hl 1 rfl) ?_
    refine pg_gR C hH fl_X10_44 hf dX10_report_30 (fun v30 hf => ?_)
    refine lv_iload_n hx hb dX10_report_33 rfl (lv_at hl 3 rfl) ?_
    refine pg_aL C hH hf dX10_report_34 (fun v34 hf => ?_)
    refine pg_Vv (As := [.long v34]) C hH mi_X10_saysWord vl_X10_445 (q := (RX10, TX10, 34)) (ci := 10) rfl rfl hf (fun _ e1 => (oO_sp e1).1) (fun _ e1 => c_X10_saysWord e1) rfl rfl hl.1 (Nat.le_of_ble_eq_true rfl) ⟨Nat.le_of_ble_eq_true rfl, Nat.le_of_ble_eq_true rfl⟩ ⟨Nat.zero_le _, Nat.zero_le _⟩ dX10_report_35 (fun H locs h35 hH hf => ?_)
    refine lv_lload_n hx hb dX10_report_38 rfl (lv_at hl 0 rfl) ?_
    refine lv_lconst (v := (0 : Int64)) hx hb dX10_report_39 (by decide) ?_
    refine W.lcmp hx hb dX10_report_40 ?_
    refine lv_if_ge (tgt := 54) hx hb dX10_report_41 (by decide) (fun cn => ?_) (fun cn => ?_)
    · have hf := (if_pos ((lg_cmp_ge _ _).mp cn)).symm.trans hf
      refine lv_aload_n hx hb dX10_report_54 rfl (lv_at hl 1 rfl) ?_
      refine lv_ldc2 (v := (89 : Int64)) hx hb hown (hts _ (htb _ kl_X10_146)) dX10_report_55 ?_
      refine pg_Vv (As := [.long (89 : Int64)]) C hH mi_X10_saysWord vl_X10_445 (q := (RX10, TX10, 34)) (ci := 10) rfl rfl hf (fun _ e1 => (oO_sp e1).1) (fun _ e1 => c_X10_saysWord e1) rfl rfl hl.1 (Nat.le_of_ble_eq_true rfl) ⟨Nat.le_of_ble_eq_true rfl, Nat.le_of_ble_eq_true rfl⟩ ⟨Nat.zero_le _, Nat.zero_le _⟩ dX10_report_58 (fun H locs h58 hH hf => ?_)
      refine lv_aload_n hx hb dX10_report_61 rfl (lv_at hl 1 rfl) ?_
      refine lv_aload_n hx hb dX10_report_62 rfl (lv_at hl 1 rfl) ?_
      refine pg_gI C hH fl_X10_420 hf dX10_report_63 (fun v63 hf => ?_)
      refine lv_i2l (v := (Int32.toInt64 v63)) hx hb dX10_report_66 rfl ?_
      refine pg_Vv (As := [.long (Int32.toInt64 v63)]) C hH mi_X10_saysNumber vl_X10_450 (q := (RX10, TX10, 34)) (ci := 10) rfl rfl hf (fun _ e1 => (oO_sp e1).1) (fun _ e1 => c_X10_saysNumber e1) rfl rfl hl.1 (Nat.le_of_ble_eq_true rfl) ⟨Nat.le_of_ble_eq_true rfl, Nat.le_of_ble_eq_true rfl⟩ ⟨Nat.zero_le _, Nat.zero_le _⟩ dX10_report_67 (fun H locs h67 hH hf => ?_)
      refine lv_aload_n hx hb dX10_report_70 rfl (lv_at hl 1 rfl) ?_
      refine lv_ldc2 (v := (24627848 : Int64)) hx hb hown (hts _ (htb _ kl_X10_142)) dX10_report_71 ?_
      refine pg_Vv (As := [.long (24627848 : Int64)]) C hH mi_X10_saysWord vl_X10_445 (q := (RX10, TX10, 34)) (ci := 10) rfl rfl hf (fun _ e1 => (oO_sp e1).1) (fun _ e1 => c_X10_saysWord e1) rfl rfl hl.1 (Nat.le_of_ble_eq_true rfl) ⟨Nat.le_of_ble_eq_true rfl, Nat.le_of_ble_eq_true rfl⟩ ⟨Nat.zero_le _, Nat.zero_le _⟩ dX10_report_74 (fun H locs h74 hH hf => ?_)
      refine lv_aload_n hx hb dX10_report_77 rfl (lv_at hl 1 rfl) ?_
      refine lv_lload_n hx hb dX10_report_78 rfl (lv_at hl 0 rfl) ?_
      refine pg_Vv (As := [.long v24]) C hH mi_X10_saysNumber vl_X10_450 (q := (RX10, TX10, 34)) (ci := 10) rfl rfl hf (fun _ e1 => (oO_sp e1).1) (fun _ e1 => c_X10_saysNumber e1) rfl rfl hl.1 (Nat.le_of_ble_eq_true rfl) ⟨Nat.le_of_ble_eq_true rfl, Nat.le_of_ble_eq_true rfl⟩ ⟨Nat.zero_le _, Nat.zero_le _⟩ dX10_report_79 (fun H locs h79 hH hf => ?_)
      exact wX10_report_b82 C hr k12 hH hf (lv_sub hl [1, 2, 3] rfl)
    · have hf := (if_neg (fun z => cn ((lg_cmp_ge _ _).mpr z))).symm.trans hf
      refine lv_aload_n hx hb dX10_report_44 rfl (lv_at hl 1 rfl) ?_
      refine lv_ldc2 (v := (6333843 : Int64)) hx hb hown (hts _ (htb _ kl_X10_448)) dX10_report_45 ?_
      refine pg_Vv (As := [.long (6333843 : Int64)]) C hH mi_X10_saysWord vl_X10_445 (q := (RX10, TX10, 34)) (ci := 10) rfl rfl hf (fun _ e1 => (oO_sp e1).1) (fun _ e1 => c_X10_saysWord e1) rfl rfl hl.1 (Nat.le_of_ble_eq_true rfl) ⟨Nat.le_of_ble_eq_true rfl, Nat.le_of_ble_eq_true rfl⟩ ⟨Nat.zero_le _, Nat.zero_le _⟩ dX10_report_48 (fun H locs h48 hH hf => ?_)
      refine lv_goto (tgt := 82) hx hb dX10_report_51 (by decide) ?_
      exact wX10_report_b82 C hr k12 hH hf (lv_sub hl [1, 2, 3] rfl)
set_option maxHeartbeats 4000000 in
set_option maxRecDepth 100000 in
theorem wX10_report_L12 {r : Int32} {h' : PH} (C : CT g RX10 cX10_report 5 (Cond.code yX10_report cX10_report 5 (some .int) :: TB) p s m args meth c) (hr : meth.sig.returnType = some .int) : ∀ (n : Nat) {h : PH} {a0 : Nat} {x1 : Int32} {x2 : Int32} {H : Heap} {locs : List Loc} {ls : Array Slot}, HS g s H locs h → mX10_report_L12 n h a0 x1 x2 = some (r, h') → lv_has ls 5 [(0, .ref (gB g + a0)), (1, .int x1), (2, .int x2)] → W p l e (rmD 15 0 0) s m args below meth c H locs 0 0 (MQ below (QcI g r h') args s 0 0 (aB g)) (F0 m 12 ls []) := by
  intro n
  induction n with
  | zero =>
    intro h a0 x1 x2 H locs ls hH hf hl
    exact absurd hf (by intro z; cases z)
  | succ n ih =>
    intro h a0 x1 x2 H locs ls hH hf hl
    have hf : mX10_report_b12 (mX10_report_L12 n) h a0 x1 x2 = some (r, h') := hf
    exact wX10_report_b12 C hr (fun a b c => ih a b c) hH hf hl
set_option maxHeartbeats 4000000 in
set_option maxRecDepth 100000 in
theorem c_X10_report {l : Launch} {g : GD} {h : PH} {a0 : Nat} {x1 : Int32} {r : Int32} {h' : PH} (hf : mX10_report h a0 x1 = some (r, h')) : Met l yX10_report (Cond.code yX10_report cX10_report 5 (some .int) :: TB) (rmD 15 0 0) (PcH g [.ref (gB g + a0), .int x1] h) (QcI g r h') 0 0 (aB g) := by
  refine Met.ofW (cc := cX10_report) (maxL := 5) (ret := some .int) (by decide) rfl ?_
  intro p e s m args below meth c s₁ B hml hv
  obtain ⟨rfl, hH0, hkk0⟩ := hv
  have C : CT g RX10 cX10_report 5 (Cond.code yX10_report cX10_report 5 (some .int) :: TB) p s m _ meth c := pg_ct (Tw := []) B hml hH0 hkk0
  have hr := B.returns
  have hH : HS g s s.heap [] h := ⟨hH0, va_S.rf⟩
  have hl := lv_entry ([.ref (gB g + a0), .int x1]) (n := 5) (Nat.le_of_ble_eq_true rfl)
  rw [lg_entry_eq]
  generalize (lg_sl ([.ref (gB g + a0), .int x1]) ++ List.replicate (5 - (lg_sl ([.ref (gB g + a0), .int x1])).length) Slot.unset).toArray = ls at hl ⊢
  have hl : lv_has ls 5 [(0, .ref (gB g + a0)), (1, .int x1)] := hl
  show W p l e (rmD 15 0 0) _ _ _ _ _ _ _ _ _ _ _ _
  unfold mX10_report at hf
  obtain ⟨hO, hf⟩ := oO_sp hf
  obtain ⟨⟨hx, hb, hml, hown, hts⟩, htb, hlk, hkk, hbs⟩ := id C
  refine lv_aload_n hx hb dX10_report_0 rfl (lv_at hl 0 rfl) ?_
  refine lv_iconst (v := (0 : Int32)) hx hb dX10_report_1 (by decide) ?_
  refine pg_pI C hH fl_X10_1 fm_10_0 hf dX10_report_2 (fun H locs h2 hH hf => ?_)
  refine lv_aload_n hx hb dX10_report_5 rfl (lv_at hl 0 rfl) ?_
  refine lv_iconst (v := (0 : Int32)) hx hb dX10_report_6 (by decide) ?_
  refine pg_pI C hH fl_X10_435 fm_10_33 hf dX10_report_7 (fun H locs h7 hH hf => ?_)
  refine lv_iconst (v := (0 : Int32)) hx hb dX10_report_10 (by decide) ?_
  refine lv_istore_n (lv' := [(2, .int (0 : Int32)), (0, .ref (gB g + a0)), (1, .int x1)]) hx hb dX10_report_11 rfl hl (by decide) rfl (fun ls hl => ?_)
  exact wX10_report_L12 C hr FU hH hf (lv_sub hl [1, 2, 0] rfl)
set_option maxHeartbeats 4000000 in
set_option maxRecDepth 100000 in
theorem wX10_acts_b50 {h' : PH} (C : CT g RX10 cX10_acts 2 (Cond.code yX10_acts cX10_acts 2 (none) :: TB) p s m args meth c) (hr : meth.sig.returnType = none) {h : PH} {a0 : Nat} {H : Heap} {locs : List Loc} {ls : Array Slot} (hH : HS g s H locs h) (hf : mX10_acts_b50 h a0 = some h') (hl : lv_has ls 2 [(0, .ref (gB g + a0))]) : W p l e (rmD 1 0 0) s m args below meth c H locs 0 0 (MQ below (QcV g h') args s 0 0 (aB g)) (F0 m 50 ls []) := by
  obtain ⟨⟨hx, hb, hml, hown, hts⟩, htb, hlk, hkk, hbs⟩ := id C
  unfold mX10_acts_b50 at hf
  refine lv_aload_n hx hb dX10_acts_50 rfl (lv_at hl 0 rfl) ?_
  refine pg_gR C hH fl_X10_13 hf dX10_acts_51 (fun v51 hf => ?_)
  refine lv_iconst (v := (0 : Int32)) hx hb dX10_acts_54 (by decide) ?_
  refine lv_aload_n hx hb dX10_acts_55 rfl (lv_at hl 0 rfl) ?_
  refine pg_gR C hH fl_X10_20 hf dX10_acts_56 (fun v56 hf => ?_)
  refine lv_sipush (v := (232 : Int32)) hx hb dX10_acts_59 (by decide) ?_
  refine lv_aload_n hx hb dX10_acts_62 rfl (lv_at hl 0 rfl) ?_
  refine pg_gI C hH fl_X10_275 hf dX10_acts_63 (fun v63 hf => ?_)
  refine lv_imul hx hb dX10_acts_66 ?_
  refine pg_Sv (As := [.ref (gB g + v51), .int (0 : Int32), .ref (gB g + v56), .int ((232 : Int32) * v63)]) C hH mi_X10_copies sl_X10_271 hf (fun _ e1 => c_X10_copies e1) rfl rfl hl.1 (Nat.le_of_ble_eq_true rfl) ⟨Nat.le_of_ble_eq_true rfl, Nat.le_of_ble_eq_true rfl⟩ ⟨Nat.zero_le _, Nat.zero_le _⟩ dX10_acts_67 (fun H locs h67 hH hf => ?_)
  refine lv_aload_n hx hb dX10_acts_70 rfl (lv_at hl 0 rfl) ?_
  refine lv_dup hx hb dX10_acts_71 rfl ?_
  refine pg_gI C hH fl_X10_275 hf dX10_acts_72 (fun v72 hf => ?_)
  refine lv_iconst (v := (1 : Int32)) hx hb dX10_acts_75 (by decide) ?_
  refine lv_iadd hx hb dX10_acts_76 ?_
  refine pg_pI C hH fl_X10_275 fm_10_6 hf dX10_acts_77 (fun H locs h77 hH hf => ?_)
  exact pg_vret C hr hH hf dX10_acts_80
set_option maxHeartbeats 4000000 in
set_option maxRecDepth 100000 in
theorem wX10_acts_b11 {r11 : PH → Nat → Int32 → Option (PH)} {h' : PH} (C : CT g RX10 cX10_acts 2 (Cond.code yX10_acts cX10_acts 2 (none) :: TB) p s m args meth c) (hr : meth.sig.returnType = none) (k11 : ∀ {h : PH} {a0 : Nat} {x1 : Int32} {H : Heap} {locs : List Loc} {ls : Array Slot}, HS g s H locs h → r11 h a0 x1 = some h' → lv_has ls 2 [(0, .ref (gB g + a0)), (1, .int x1)] → W p l e (rmD 1 0 0) s m args below meth c H locs 0 0 (MQ below (QcV g h') args s 0 0 (aB g)) (F0 m 11 ls [])) {h : PH} {a0 : Nat} {x1 : Int32} {H : Heap} {locs : List Loc} {ls : Array Slot} (hH : HS g s H locs h) (hf : mX10_acts_b11 r11 h a0 x1 = some h') (hl : lv_has ls 2 [(0, .ref (gB g + a0)), (1, .int x1)]) : W p l e (rmD 1 0 0) s m args below meth c H locs 0 0 (MQ below (QcV g h') args s 0 0 (aB g)) (F0 m 11 ls []) := by
  obtain ⟨⟨hx, hb, hml, hown, hts⟩, htb, hlk, hkk, hbs⟩ := id C
  unfold mX10_acts_b11 at hf
  refine lv_iload_n hx hb dX10_acts_11 rfl (lv_at hl 1 rfl) ?_
  refine lv_sipush (v := (2552 : Int32)) hx hb dX10_acts_12 (by decide) ?_
  refine lv_icmp_ge (tgt := 40) hx hb dX10_acts_15 (by decide) (fun cn => ?_) (fun cn => ?_)
  · have hf := (if_pos cn).symm.trans hf
    refine lv_aload_n hx hb dX10_acts_40 rfl (lv_at hl 0 rfl) ?_
    refine lv_dup hx hb dX10_acts_41 rfl ?_
    refine pg_gI C hH fl_X10_275 hf dX10_acts_42 (fun v42 hf => ?_)
    refine lv_iconst (v := (1 : Int32)) hx hb dX10_acts_45 (by decide) ?_
    refine lv_isub hx hb dX10_acts_46 ?_
    refine pg_pI C hH fl_X10_275 fm_10_6 hf dX10_acts_47 (fun H locs h47 hH hf => ?_)
    exact wX10_acts_b50 C hr hH hf (lv_sub hl [0] rfl)
  · have hf := (if_neg cn).symm.trans hf
    refine lv_aload_n hx hb dX10_acts_18 rfl (lv_at hl 0 rfl) ?_
    refine pg_gR C hH fl_X10_20 hf dX10_acts_19 (fun v19 hf => ?_)
    refine lv_iload_n hx hb dX10_acts_22 rfl (lv_at hl 1 rfl) ?_
    refine lv_aload_n hx hb dX10_acts_23 rfl (lv_at hl 0 rfl) ?_
    refine pg_gR C hH fl_X10_20 hf dX10_acts_24 (fun v24 hf => ?_)
    refine lv_iload_n hx hb dX10_acts_27 rfl (lv_at hl 1 rfl) ?_
    refine lv_sipush (v := (232 : Int32)) hx hb dX10_acts_28 (by decide) ?_
    refine lv_iadd hx hb dX10_acts_31 ?_
    refine pg_aI C hH hf dX10_acts_32 (fun v32 hf => ?_)
    refine pg_sI C hH hf dX10_acts_33 (fun H locs h33 hH hf => ?_)
    refine lv_iinc (v := (x1 + 1)) (lv' := [(1, .int (x1 + 1)), (0, .ref (gB g + a0))]) hx hb dX10_acts_34 hl (k := 1) rfl rfl (by decide) rfl (fun ls hl => ?_)
    refine lv_goto (tgt := 11) hx hb dX10_acts_37 (by decide) ?_
    exact k11 hH hf (lv_sub hl [1, 0] rfl)
set_option maxHeartbeats 4000000 in
set_option maxRecDepth 100000 in
theorem wX10_acts_L11 {h' : PH} (C : CT g RX10 cX10_acts 2 (Cond.code yX10_acts cX10_acts 2 (none) :: TB) p s m args meth c) (hr : meth.sig.returnType = none) : ∀ (n : Nat) {h : PH} {a0 : Nat} {x1 : Int32} {H : Heap} {locs : List Loc} {ls : Array Slot}, HS g s H locs h → mX10_acts_L11 n h a0 x1 = some h' → lv_has ls 2 [(0, .ref (gB g + a0)), (1, .int x1)] → W p l e (rmD 1 0 0) s m args below meth c H locs 0 0 (MQ below (QcV g h') args s 0 0 (aB g)) (F0 m 11 ls []) := by
  intro n
  induction n with
  | zero =>
    intro h a0 x1 H locs ls hH hf hl
    exact absurd hf (by intro z; cases z)
  | succ n ih =>
    intro h a0 x1 H locs ls hH hf hl
    have hf : mX10_acts_b11 (mX10_acts_L11 n) h a0 x1 = some h' := hf
    exact wX10_acts_b11 C hr (fun a b c => ih a b c) hH hf hl
set_option maxHeartbeats 4000000 in
set_option maxRecDepth 100000 in
theorem c_X10_acts {l : Launch} {g : GD} {h : PH} {a0 : Nat} {h' : PH} (hf : mX10_acts h a0 = some h') : Met l yX10_acts (Cond.code yX10_acts cX10_acts 2 (none) :: TB) (rmD 1 0 0) (PcH g [.ref (gB g + a0)] h) (QcV g h') 0 0 (aB g) := by
  refine Met.ofW (cc := cX10_acts) (maxL := 2) (ret := none) (by decide) rfl ?_
  intro p e s m args below meth c s₁ B hml hv
  obtain ⟨rfl, hH0, hkk0⟩ := hv
  have C : CT g RX10 cX10_acts 2 (Cond.code yX10_acts cX10_acts 2 (none) :: TB) p s m _ meth c := pg_ct (Tw := []) B hml hH0 hkk0
  have hr := B.returns
  have hH : HS g s s.heap [] h := ⟨hH0, va_S.rf⟩
  have hl := lv_entry ([.ref (gB g + a0)]) (n := 2) (Nat.le_of_ble_eq_true rfl)
  rw [lg_entry_eq]
  generalize (lg_sl ([.ref (gB g + a0)]) ++ List.replicate (2 - (lg_sl ([.ref (gB g + a0)])).length) Slot.unset).toArray = ls at hl ⊢
  have hl : lv_has ls 2 [(0, .ref (gB g + a0))] := hl
  show W p l e (rmD 1 0 0) _ _ _ _ _ _ _ _ _ _ _ _
  unfold mX10_acts at hf
  obtain ⟨hO, hf⟩ := oO_sp hf
  obtain ⟨⟨hx, hb, hml, hown, hts⟩, htb, hlk, hkk, hbs⟩ := id C
  refine lv_aload_n hx hb dX10_acts_0 rfl (lv_at hl 0 rfl) ?_
  refine pg_gI C hH fl_X10_275 hf dX10_acts_1 (fun v1 hf => ?_)
  refine lv_bipush (v := (12 : Int32)) hx hb dX10_acts_4 (by decide) ?_
  refine lv_icmp_ne (tgt := 50) hx hb dX10_acts_6 (by decide) (fun cn => ?_) (fun cn => ?_)
  · have hf := (if_neg cn).symm.trans hf
    exact wX10_acts_b50 C hr hH hf (lv_sub hl [0] rfl)
  · have hf := (if_pos cn).symm.trans hf
    refine lv_iconst (v := (0 : Int32)) hx hb dX10_acts_9 (by decide) ?_
    refine lv_istore_n (lv' := [(1, .int (0 : Int32)), (0, .ref (gB g + a0))]) hx hb dX10_acts_10 rfl hl (by decide) rfl (fun ls hl => ?_)
    exact wX10_acts_L11 C hr FU hH hf (lv_sub hl [1, 0] rfl)
set_option maxHeartbeats 4000000 in
set_option maxRecDepth 100000 in
theorem c_X10_sets {l : Launch} {g : GD} {h : PH} {a0 : Nat} {x1 : Int32} {x2 : Int32} {r : Int32} {h' : PH} (hf : mX10_sets h a0 x1 x2 = some (r, h')) : Met l yX10_sets (Cond.code yX10_sets cX10_sets 4 (some .int) :: TB) (rmD 2 0 0) (PcH g [.ref (gB g + a0), .int x1, .int x2] h) (QcI g r h') 0 0 (aB g) := by
  refine Met.ofW (cc := cX10_sets) (maxL := 4) (ret := some .int) (by decide) rfl ?_
  intro p e s m args below meth c s₁ B hml hv
  obtain ⟨rfl, hH0, hkk0⟩ := hv
  have C : CT g RX10 cX10_sets 4 (Cond.code yX10_sets cX10_sets 4 (some .int) :: TB) p s m _ meth c := pg_ct (Tw := []) B hml hH0 hkk0
  have hr := B.returns
  have hH : HS g s s.heap [] h := ⟨hH0, va_S.rf⟩
  have hl := lv_entry ([.ref (gB g + a0), .int x1, .int x2]) (n := 4) (Nat.le_of_ble_eq_true rfl)
  rw [lg_entry_eq]
  generalize (lg_sl ([.ref (gB g + a0), .int x1, .int x2]) ++ List.replicate (4 - (lg_sl ([.ref (gB g + a0), .int x1, .int x2])).length) Slot.unset).toArray = ls at hl ⊢
  have hl : lv_has ls 4 [(0, .ref (gB g + a0)), (1, .int x1), (2, .int x2)] := hl
  show W p l e (rmD 2 0 0) _ _ _ _ _ _ _ _ _ _ _ _
  unfold mX10_sets at hf
  obtain ⟨hO, hf⟩ := oO_sp hf
  obtain ⟨⟨hx, hb, hml, hown, hts⟩, htb, hlk, hkk, hbs⟩ := id C
  refine lv_aload_n hx hb dX10_sets_0 rfl (lv_at hl 0 rfl) ?_
  refine pg_gR C hH fl_X10_13 hf dX10_sets_1 (fun v1 hf => ?_)
  refine lv_iload_n hx hb dX10_sets_4 rfl (lv_at hl 1 rfl) ?_
  refine pg_aI C hH hf dX10_sets_5 (fun v5 hf => ?_)
  refine lv_istore_n (lv' := [(3, .int v5), (0, .ref (gB g + a0)), (1, .int x1), (2, .int x2)]) hx hb dX10_sets_6 rfl hl (by decide) rfl (fun ls hl => ?_)
  refine lv_iload_n hx hb dX10_sets_7 rfl (lv_at hl 0 rfl) ?_
  refine lv_iload_n hx hb dX10_sets_8 rfl (lv_at hl 3 rfl) ?_
  refine lv_icmp_ne (tgt := 14) hx hb dX10_sets_9 (by decide) (fun cn => ?_) (fun cn => ?_)
  · have hf := (if_neg cn).symm.trans hf
    refine lv_aload_n hx hb dX10_sets_14 rfl (lv_at hl 1 rfl) ?_
    refine pg_Vv (As := []) C hH mi_X10_acts vl_X10_453 (q := (RX10, TX10, 34)) (ci := 10) rfl rfl hf (fun _ e1 => (oO_sp e1).1) (fun _ e1 => c_X10_acts e1) rfl rfl hl.1 (Nat.le_of_ble_eq_true rfl) ⟨Nat.le_of_ble_eq_true rfl, Nat.le_of_ble_eq_true rfl⟩ ⟨Nat.zero_le _, Nat.zero_le _⟩ dX10_sets_15 (fun H locs h15 hH hf => ?_)
    refine lv_aload_n hx hb dX10_sets_18 rfl (lv_at hl 1 rfl) ?_
    refine pg_gR C hH fl_X10_13 hf dX10_sets_19 (fun v19 hf => ?_)
    refine lv_iload_n hx hb dX10_sets_22 rfl (lv_at hl 2 rfl) ?_
    refine lv_iload_n hx hb dX10_sets_23 rfl (lv_at hl 3 rfl) ?_
    refine pg_sI C hH hf dX10_sets_24 (fun H locs h24 hH hf => ?_)
    refine lv_iload_n hx hb dX10_sets_25 rfl (lv_at hl 0 rfl) ?_
    exact pg_iret C hr hH hf dX10_sets_26
  · have hf := (if_pos cn).symm.trans hf
    refine lv_iconst (v := (-1 : Int32)) hx hb dX10_sets_12 (by decide) ?_
    exact pg_iret C hr hH hf dX10_sets_13
set_option maxHeartbeats 4000000 in
set_option maxRecDepth 100000 in
theorem c_X10_price {l : Launch} {g : GD} {h : PH} {a0 : Nat} {x1 : Int32} {x2 : Int32} {r : Int32} {h' : PH} (hf : mX10_price h a0 x1 x2 = some (r, h')) : Met l yX10_price (Cond.code yX10_price cX10_price 3 (some .int) :: TB) (rmD 3 0 0) (PcH g [.ref (gB g + a0), .int x1, .int x2] h) (QcI g r h') 0 0 (aB g) := by
  refine Met.ofW (cc := cX10_price) (maxL := 3) (ret := some .int) (by decide) rfl ?_
  intro p e s m args below meth c s₁ B hml hv
  obtain ⟨rfl, hH0, hkk0⟩ := hv
  have C : CT g RX10 cX10_price 3 (Cond.code yX10_price cX10_price 3 (some .int) :: TB) p s m _ meth c := pg_ct (Tw := []) B hml hH0 hkk0
  have hr := B.returns
  have hH : HS g s s.heap [] h := ⟨hH0, va_S.rf⟩
  have hl := lv_entry ([.ref (gB g + a0), .int x1, .int x2]) (n := 3) (Nat.le_of_ble_eq_true rfl)
  rw [lg_entry_eq]
  generalize (lg_sl ([.ref (gB g + a0), .int x1, .int x2]) ++ List.replicate (3 - (lg_sl ([.ref (gB g + a0), .int x1, .int x2])).length) Slot.unset).toArray = ls at hl ⊢
  have hl : lv_has ls 3 [(0, .ref (gB g + a0)), (1, .int x1), (2, .int x2)] := hl
  show W p l e (rmD 3 0 0) _ _ _ _ _ _ _ _ _ _ _ _
  unfold mX10_price at hf
  obtain ⟨hO, hf⟩ := oO_sp hf
  obtain ⟨⟨hx, hb, hml, hown, hts⟩, htb, hlk, hkk, hbs⟩ := id C
  refine lv_aload_n hx hb dX10_price_0 rfl (lv_at hl 0 rfl) ?_
  refine lv_iconst (v := (0 : Int32)) hx hb dX10_price_1 (by decide) ?_
  refine pg_pI C hH fl_X10_1 fm_10_0 hf dX10_price_2 (fun H locs h2 hH hf => ?_)
  refine lv_aload_n hx hb dX10_price_5 rfl (lv_at hl 0 rfl) ?_
  refine lv_iload_n hx hb dX10_price_6 rfl (lv_at hl 1 rfl) ?_
  refine pg_Vi (As := [.int x1]) C hH mi_X10_isSale vl_X10_288 (q := (RX10, TX10, 34)) (ci := 10) rfl rfl hf (fun _ e1 => (oO_sp e1).1) (fun _ _ e1 => c_X10_isSale e1) rfl rfl hl.1 (Nat.le_of_ble_eq_true rfl) ⟨Nat.le_of_ble_eq_true rfl, Nat.le_of_ble_eq_true rfl⟩ ⟨Nat.zero_le _, Nat.zero_le _⟩ dX10_price_7 (fun H locs v7 h7 hH hf => ?_)
  refine lv_if_eq (tgt := 42) hx hb dX10_price_10 (by decide) (fun cn => ?_) (fun cn => ?_)
  · have hf := (if_pos cn).symm.trans hf
    refine lv_iconst (v := (-1 : Int32)) hx hb dX10_price_42 (by decide) ?_
    exact pg_iret C hr hH hf dX10_price_43
  · have hf := (if_neg cn).symm.trans hf
    refine lv_iload_n hx hb dX10_price_13 rfl (lv_at hl 2 rfl) ?_
    refine lv_i2l (v := (Int32.toInt64 x2)) hx hb dX10_price_14 rfl ?_
    refine lv_lconst (v := (1 : Int64)) hx hb dX10_price_15 (by decide) ?_
    refine lv_ldc2 (v := (9999 : Int64)) hx hb hown (hts _ (htb _ kl_X10_456)) dX10_price_16 ?_
    refine pg_Si (As := [.long (Int32.toInt64 x2), .long (1 : Int64), .long (9999 : Int64)]) C hH mi_X10_within sl_X10_97 hf (fun _ _ e1 => c_X10_within e1) rfl rfl hl.1 (Nat.le_of_ble_eq_true rfl) ⟨Nat.le_of_ble_eq_true rfl, Nat.le_of_ble_eq_true rfl⟩ ⟨Nat.zero_le _, Nat.zero_le _⟩ dX10_price_19 (fun H locs v19 h19 hH hf => ?_)
    refine lv_if_eq (tgt := 42) hx hb dX10_price_22 (by decide) (fun cn => ?_) (fun cn => ?_)
    · have hf := (if_pos cn).symm.trans hf
      refine lv_iconst (v := (-1 : Int32)) hx hb dX10_price_42 (by decide) ?_
      exact pg_iret C hr hH hf dX10_price_43
    · have hf := (if_neg cn).symm.trans hf
      refine lv_aload_n hx hb dX10_price_25 rfl (lv_at hl 0 rfl) ?_
      refine lv_bipush (v := (56 : Int32)) hx hb dX10_price_26 (by decide) ?_
      refine lv_bipush (v := (12 : Int32)) hx hb dX10_price_28 (by decide) ?_
      refine lv_iload_n hx hb dX10_price_30 rfl (lv_at hl 1 rfl) ?_
      refine lv_imul hx hb dX10_price_31 ?_
      refine lv_iadd hx hb dX10_price_32 ?_
      refine lv_iconst (v := (4 : Int32)) hx hb dX10_price_33 (by decide) ?_
      refine lv_iadd hx hb dX10_price_34 ?_
      refine lv_iload_n hx hb dX10_price_35 rfl (lv_at hl 2 rfl) ?_
      refine pg_Vi (As := [.int (((56 : Int32) + ((12 : Int32) * x1)) + (4 : Int32)), .int x2]) C hH mi_X10_sets vl_X10_458 (q := (RX10, TX10, 34)) (ci := 10) rfl rfl hf (fun _ e1 => (oO_sp e1).1) (fun _ _ e1 => c_X10_sets e1) rfl rfl hl.1 (Nat.le_of_ble_eq_true rfl) ⟨Nat.le_of_ble_eq_true rfl, Nat.le_of_ble_eq_true rfl⟩ ⟨Nat.zero_le _, Nat.zero_le _⟩ dX10_price_36 (fun H locs v36 h36 hH hf => ?_)
      refine lv_goto (tgt := 43) hx hb dX10_price_39 (by decide) ?_
      exact pg_iret C hr hH hf dX10_price_43
set_option maxHeartbeats 4000000 in
set_option maxRecDepth 100000 in
theorem wX10_bind_b33 {r : Int32} {h' : PH} (C : CT g RX10 cX10_bind 3 (Cond.code yX10_bind cX10_bind 3 (some .boolean) :: TB) p s m args meth c) (hr : meth.sig.returnType = some .boolean) {h : PH} {s0 : Nat} {s1 : Int32} {s2 : Int32} {H : Heap} {locs : List Loc} {ls : Array Slot} (hH : HS g s H locs h) (hf : mX10_bind_b33 h s0 s1 s2 = some (r, h')) (hl : lv_has ls 3 []) : W p l e (rmD 3 0 0) s m args below meth c H locs 0 0 (MQ below (QcI g r h') args s 0 0 (aB g)) (F0 m 33 ls [.int s2, .int s1, .ref (gB g + s0)]) := by
  obtain ⟨⟨hx, hb, hml, hown, hts⟩, htb, hlk, hkk, hbs⟩ := id C
  unfold mX10_bind_b33 at hf
  refine pg_Vi (As := [.int s1, .int s2]) C hH mi_X10_sets vl_X10_458 (q := (RX10, TX10, 34)) (ci := 10) rfl rfl hf (fun _ e1 => (oO_sp e1).1) (fun _ _ e1 => c_X10_sets e1) rfl rfl hl.1 (Nat.le_of_ble_eq_true rfl) ⟨Nat.le_of_ble_eq_true rfl, Nat.le_of_ble_eq_true rfl⟩ ⟨Nat.zero_le _, Nat.zero_le _⟩ dX10_bind_33 (fun H locs v33 h33 hH hf => ?_)
  refine lv_iconst (v := (-1 : Int32)) hx hb dX10_bind_36 (by decide) ?_
  refine lv_icmp_eq (tgt := 44) hx hb dX10_bind_37 (by decide) (fun cn => ?_) (fun cn => ?_)
  · have hf := (if_pos cn).symm.trans hf
    refine lv_iconst (v := (0 : Int32)) hx hb dX10_bind_44 (by decide) ?_
    exact pg_zret C hr hH hf dX10_bind_45
  · have hf := (if_neg cn).symm.trans hf
    refine lv_iconst (v := (1 : Int32)) hx hb dX10_bind_40 (by decide) ?_
    refine lv_goto (tgt := 45) hx hb dX10_bind_41 (by decide) ?_
    exact pg_zret C hr hH hf dX10_bind_45
set_option maxHeartbeats 4000000 in
set_option maxRecDepth 100000 in
theorem c_X10_bind {l : Launch} {g : GD} {h : PH} {a0 : Nat} {x1 : Int32} {x2 : Int32} {r : Int32} {h' : PH} (hf : mX10_bind h a0 x1 x2 = some (r, h')) : Met l yX10_bind (Cond.code yX10_bind cX10_bind 3 (some .boolean) :: TB) (rmD 3 0 0) (PcH g [.ref (gB g + a0), .int x1, .int x2] h) (QcI g r h') 0 0 (aB g) := by
  refine Met.ofW (cc := cX10_bind) (maxL := 3) (ret := some .boolean) (by decide) rfl ?_
  intro p e s m args below meth c s₁ B hml hv
  obtain ⟨rfl, hH0, hkk0⟩ := hv
  have C : CT g RX10 cX10_bind 3 (Cond.code yX10_bind cX10_bind 3 (some .boolean) :: TB) p s m _ meth c := pg_ct (Tw := []) B hml hH0 hkk0
  have hr := B.returns
  have hH : HS g s s.heap [] h := ⟨hH0, va_S.rf⟩
  have hl := lv_entry ([.ref (gB g + a0), .int x1, .int x2]) (n := 3) (Nat.le_of_ble_eq_true rfl)
  rw [lg_entry_eq]
  generalize (lg_sl ([.ref (gB g + a0), .int x1, .int x2]) ++ List.replicate (3 - (lg_sl ([.ref (gB g + a0), .int x1, .int x2])).length) Slot.unset).toArray = ls at hl ⊢
  have hl : lv_has ls 3 [(0, .ref (gB g + a0)), (1, .int x1), (2, .int x2)] := hl
  show W p l e (rmD 3 0 0) _ _ _ _ _ _ _ _ _ _ _ _
  unfold mX10_bind at hf
  obtain ⟨hO, hf⟩ := oO_sp hf
  obtain ⟨⟨hx, hb, hml, hown, hts⟩, htb, hlk, hkk, hbs⟩ := id C
  refine lv_aload_n hx hb dX10_bind_0 rfl (lv_at hl 0 rfl) ?_
  refine lv_iconst (v := (0 : Int32)) hx hb dX10_bind_1 (by decide) ?_
  refine pg_pI C hH fl_X10_1 fm_10_0 hf dX10_bind_2 (fun H locs h2 hH hf => ?_)
  refine lv_aload_n hx hb dX10_bind_5 rfl (lv_at hl 0 rfl) ?_
  refine lv_iload_n hx hb dX10_bind_6 rfl (lv_at hl 1 rfl) ?_
  refine pg_Vi (As := [.int x1]) C hH mi_X10_isSale vl_X10_288 (q := (RX10, TX10, 34)) (ci := 10) rfl rfl hf (fun _ e1 => (oO_sp e1).1) (fun _ _ e1 => c_X10_isSale e1) rfl rfl hl.1 (Nat.le_of_ble_eq_true rfl) ⟨Nat.le_of_ble_eq_true rfl, Nat.le_of_ble_eq_true rfl⟩ ⟨Nat.zero_le _, Nat.zero_le _⟩ dX10_bind_7 (fun H locs v7 h7 hH hf => ?_)
  refine lv_if_eq (tgt := 44) hx hb dX10_bind_10 (by decide) (fun cn => ?_) (fun cn => ?_)
  · have hf := (if_pos cn).symm.trans hf
    refine lv_iconst (v := (0 : Int32)) hx hb dX10_bind_44 (by decide) ?_
    exact pg_zret C hr hH hf dX10_bind_45
  · have hf := (if_neg cn).symm.trans hf
    refine lv_aload_n hx hb dX10_bind_13 rfl (lv_at hl 0 rfl) ?_
    refine lv_bipush (v := (56 : Int32)) hx hb dX10_bind_14 (by decide) ?_
    refine lv_bipush (v := (12 : Int32)) hx hb dX10_bind_16 (by decide) ?_
    refine lv_iload_n hx hb dX10_bind_18 rfl (lv_at hl 1 rfl) ?_
    refine lv_imul hx hb dX10_bind_19 ?_
    refine lv_iadd hx hb dX10_bind_20 ?_
    refine lv_bipush (v := (6 : Int32)) hx hb dX10_bind_21 (by decide) ?_
    refine lv_iadd hx hb dX10_bind_23 ?_
    refine lv_iload_n hx hb dX10_bind_24 rfl (lv_at hl 2 rfl) ?_
    refine lv_if_eq (tgt := 32) hx hb dX10_bind_25 (by decide) (fun cn => ?_) (fun cn => ?_)
    · have hf := (if_pos cn).symm.trans hf
      refine lv_iconst (v := (0 : Int32)) hx hb dX10_bind_32 (by decide) ?_
      exact wX10_bind_b33 C hr hH hf (lv_sub hl [] rfl)
    · have hf := (if_neg cn).symm.trans hf
      refine lv_iconst (v := (1 : Int32)) hx hb dX10_bind_28 (by decide) ?_
      refine lv_goto (tgt := 33) hx hb dX10_bind_29 (by decide) ?_
      exact wX10_bind_b33 C hr hH hf (lv_sub hl [] rfl)
set_option maxHeartbeats 4000000 in
set_option maxRecDepth 100000 in
theorem wX10_relate_b150 {r150 : PH → Nat → Int32 → Option (Int32 × PH)} {r : Int32} {h' : PH} (C : CT g RX10 cX10_relate 6 (Cond.code yX10_relate cX10_relate 6 (some .boolean) :: TB) p s m args meth c) (hr : meth.sig.returnType = some .boolean) (k150 : ∀ {h : PH} {a0 : Nat} {x5 : Int32} {H : Heap} {locs : List Loc} {ls : Array Slot}, HS g s H locs h → r150 h a0 x5 = some (r, h') → lv_has ls 6 [(0, .ref (gB g + a0)), (5, .int x5)] → W p l e (rmD 2 0 0) s m args below meth c H locs 0 0 (MQ below (QcI g r h') args s 0 0 (aB g)) (F0 m 150 ls [])) {h : PH} {a0 : Nat} {x5 : Int32} {H : Heap} {locs : List Loc} {ls : Array Slot} (hH : HS g s H locs h) (hf : mX10_relate_b150 r150 h a0 x5 = some (r, h')) (hl : lv_has ls 6 [(0, .ref (gB g + a0)), (5, .int x5)]) : W p l e (rmD 2 0 0) s m args below meth c H locs 0 0 (MQ below (QcI g r h') args s 0 0 (aB g)) (F0 m 150 ls []) := by
  obtain ⟨⟨hx, hb, hml, hown, hts⟩, htb, hlk, hkk, hbs⟩ := id C
  unfold mX10_relate_b150 at hf
  refine lv_iload hx hb dX10_relate_150 (lv_at hl 1 rfl) ?_
  refine lv_bipush (v := (22 : Int32)) hx hb dX10_relate_152 (by decide) ?_
  refine lv_icmp_ge (tgt := 179) hx hb dX10_relate_154 (by decide) (fun cn => ?_) (fun cn => ?_)
  · have hf := (if_pos cn).symm.trans hf
    refine lv_aload_n hx hb dX10_relate_179 rfl (lv_at hl 0 rfl) ?_
    refine pg_gR C hH fl_X10_13 hf dX10_relate_180 (fun v180 hf => ?_)
    refine lv_bipush (v := (11 : Int32)) hx hb dX10_relate_183 (by decide) ?_
    refine lv_dup2_11 hx hb dX10_relate_185 rfl rfl ?_
    refine pg_aI C hH hf dX10_relate_186 (fun v186 hf => ?_)
    refine lv_iconst (v := (1 : Int32)) hx hb dX10_relate_187 (by decide) ?_
    refine lv_isub hx hb dX10_relate_188 ?_
    refine pg_sI C hH hf dX10_relate_189 (fun H locs h189 hH hf => ?_)
    refine lv_iconst (v := (1 : Int32)) hx hb dX10_relate_190 (by decide) ?_
    exact pg_zret C hr hH hf dX10_relate_191
  · have hf := (if_neg cn).symm.trans hf
    refine lv_aload_n hx hb dX10_relate_157 rfl (lv_at hl 0 rfl) ?_
    refine pg_gR C hH fl_X10_13 hf dX10_relate_158 (fun v158 hf => ?_)
    refine lv_iload hx hb dX10_relate_161 (lv_at hl 1 rfl) ?_
    refine lv_aload_n hx hb dX10_relate_163 rfl (lv_at hl 0 rfl) ?_
    refine pg_gR C hH fl_X10_13 hf dX10_relate_164 (fun v164 hf => ?_)
    refine lv_iload hx hb dX10_relate_167 (lv_at hl 1 rfl) ?_
    refine lv_iconst (v := (2 : Int32)) hx hb dX10_relate_169 (by decide) ?_
    refine lv_iadd hx hb dX10_relate_170 ?_
    refine pg_aI C hH hf dX10_relate_171 (fun v171 hf => ?_)
    refine pg_sI C hH hf dX10_relate_172 (fun H locs h172 hH hf => ?_)
    refine lv_iinc (v := (x5 + 1)) (lv' := [(5, .int (x5 + 1)), (0, .ref (gB g + a0))]) hx hb dX10_relate_173 hl (k := 1) rfl rfl (by decide) rfl (fun ls hl => ?_)
    refine lv_goto (tgt := 150) hx hb dX10_relate_176 (by decide) ?_
    exact k150 hH hf (lv_sub hl [1, 0] rfl)
set_option maxHeartbeats 4000000 in
set_option maxRecDepth 100000 in
theorem wX10_relate_L150 {r : Int32} {h' : PH} (C : CT g RX10 cX10_relate 6 (Cond.code yX10_relate cX10_relate 6 (some .boolean) :: TB) p s m args meth c) (hr : meth.sig.returnType = some .boolean) : ∀ (n : Nat) {h : PH} {a0 : Nat} {x5 : Int32} {H : Heap} {locs : List Loc} {ls : Array Slot}, HS g s H locs h → mX10_relate_L150 n h a0 x5 = some (r, h') → lv_has ls 6 [(0, .ref (gB g + a0)), (5, .int x5)] → W p l e (rmD 2 0 0) s m args below meth c H locs 0 0 (MQ below (QcI g r h') args s 0 0 (aB g)) (F0 m 150 ls []) := by
  intro n
  induction n with
  | zero =>
    intro h a0 x5 H locs ls hH hf hl
    exact absurd hf (by intro z; cases z)
  | succ n ih =>
    intro h a0 x5 H locs ls hH hf hl
    have hf : mX10_relate_b150 (mX10_relate_L150 n) h a0 x5 = some (r, h') := hf
    exact wX10_relate_b150 C hr (fun a b c => ih a b c) hH hf hl
set_option maxHeartbeats 4000000 in
set_option maxRecDepth 100000 in
theorem wX10_relate_b82 {r : Int32} {h' : PH} (C : CT g RX10 cX10_relate 6 (Cond.code yX10_relate cX10_relate 6 (some .boolean) :: TB) p s m args meth c) (hr : meth.sig.returnType = some .boolean) {h : PH} {a0 : Nat} {x1 : Int32} {x2 : Int32} {x3 : Int32} {x4 : Int32} {H : Heap} {locs : List Loc} {ls : Array Slot} (hH : HS g s H locs h) (hf : mX10_relate_b82 h a0 x1 x2 x3 x4 = some (r, h')) (hl : lv_has ls 6 [(0, .ref (gB g + a0)), (1, .int x1), (2, .int x2), (3, .int x3), (4, .int x4)]) : W p l e (rmD 2 0 0) s m args below meth c H locs 0 0 (MQ below (QcI g r h') args s 0 0 (aB g)) (F0 m 82 ls []) := by
  obtain ⟨⟨hx, hb, hml, hown, hts⟩, htb, hlk, hkk, hbs⟩ := id C
  unfold mX10_relate_b82 at hf
  refine lv_aload_n hx hb dX10_relate_82 rfl (lv_at hl 0 rfl) ?_
  refine pg_Vv (As := []) C hH mi_X10_acts vl_X10_453 (q := (RX10, TX10, 34)) (ci := 10) rfl rfl hf (fun _ e1 => (oO_sp e1).1) (fun _ e1 => c_X10_acts e1) rfl rfl hl.1 (Nat.le_of_ble_eq_true rfl) ⟨Nat.le_of_ble_eq_true rfl, Nat.le_of_ble_eq_true rfl⟩ ⟨Nat.zero_le _, Nat.zero_le _⟩ dX10_relate_83 (fun H locs h83 hH hf => ?_)
  refine lv_iload_n hx hb dX10_relate_86 rfl (lv_at hl 3 rfl) ?_
  refine lv_if_eq (tgt := 141) hx hb dX10_relate_87 (by decide) (fun cn => ?_) (fun cn => ?_)
  · have hf := (if_pos cn).symm.trans hf
    refine lv_bipush (v := (12 : Int32)) hx hb dX10_relate_141 (by decide) ?_
    refine lv_iconst (v := (2 : Int32)) hx hb dX10_relate_143 (by decide) ?_
    refine lv_iload hx hb dX10_relate_144 (lv_at hl 4 rfl) ?_
    refine lv_imul hx hb dX10_relate_146 ?_
    refine lv_iadd hx hb dX10_relate_147 ?_
    refine lv_istore (lv' := [(5, .int ((12 : Int32) + ((2 : Int32) * x4))), (0, .ref (gB g + a0)), (1, .int x1), (2, .int x2), (3, .int x3), (4, .int x4)]) hx hb dX10_relate_148 hl (by decide) rfl (fun ls hl => ?_)
    exact wX10_relate_L150 C hr FU hH hf (lv_sub hl [1, 0] rfl)
  · have hf := (if_neg cn).symm.trans hf
    refine lv_aload_n hx hb dX10_relate_90 rfl (lv_at hl 0 rfl) ?_
    refine pg_gR C hH fl_X10_13 hf dX10_relate_91 (fun v91 hf => ?_)
    refine lv_bipush (v := (12 : Int32)) hx hb dX10_relate_94 (by decide) ?_
    refine lv_iconst (v := (2 : Int32)) hx hb dX10_relate_96 (by decide) ?_
    refine lv_aload_n hx hb dX10_relate_97 rfl (lv_at hl 0 rfl) ?_
    refine pg_gR C hH fl_X10_13 hf dX10_relate_98 (fun v98 hf => ?_)
    refine lv_bipush (v := (11 : Int32)) hx hb dX10_relate_101 (by decide) ?_
    refine pg_aI C hH hf dX10_relate_103 (fun v103 hf => ?_)
    refine lv_imul hx hb dX10_relate_104 ?_
    refine lv_iadd hx hb dX10_relate_105 ?_
    refine lv_iload_n hx hb dX10_relate_106 rfl (lv_at hl 1 rfl) ?_
    refine pg_sI C hH hf dX10_relate_107 (fun H locs h107 hH hf => ?_)
    refine lv_aload_n hx hb dX10_relate_108 rfl (lv_at hl 0 rfl) ?_
    refine pg_gR C hH fl_X10_13 hf dX10_relate_109 (fun v109 hf => ?_)
    refine lv_bipush (v := (12 : Int32)) hx hb dX10_relate_112 (by decide) ?_
    refine lv_iconst (v := (2 : Int32)) hx hb dX10_relate_114 (by decide) ?_
    refine lv_aload_n hx hb dX10_relate_115 rfl (lv_at hl 0 rfl) ?_
    refine pg_gR C hH fl_X10_13 hf dX10_relate_116 (fun v116 hf => ?_)
    refine lv_bipush (v := (11 : Int32)) hx hb dX10_relate_119 (by decide) ?_
    refine pg_aI C hH hf dX10_relate_121 (fun v121 hf => ?_)
    refine lv_imul hx hb dX10_relate_122 ?_
    refine lv_iadd hx hb dX10_relate_123 ?_
    refine lv_iconst (v := (1 : Int32)) hx hb dX10_relate_124 (by decide) ?_
    refine lv_iadd hx hb dX10_relate_125 ?_
    refine lv_iload_n hx hb dX10_relate_126 rfl (lv_at hl 2 rfl) ?_
    refine pg_sI C hH hf dX10_relate_127 (fun H locs h127 hH hf => ?_)
    refine lv_aload_n hx hb dX10_relate_128 rfl (lv_at hl 0 rfl) ?_
    refine pg_gR C hH fl_X10_13 hf dX10_relate_129 (fun v129 hf => ?_)
    refine lv_bipush (v := (11 : Int32)) hx hb dX10_relate_132 (by decide) ?_
    refine lv_dup2_11 hx hb dX10_relate_134 rfl rfl ?_
    refine pg_aI C hH hf dX10_relate_135 (fun v135 hf => ?_)
    refine lv_iconst (v := (1 : Int32)) hx hb dX10_relate_136 (by decide) ?_
    refine lv_iadd hx hb dX10_relate_137 ?_
    refine pg_sI C hH hf dX10_relate_138 (fun H locs h138 hH hf => ?_)
    refine lv_iconst (v := (1 : Int32)) hx hb dX10_relate_139 (by decide) ?_
    exact pg_zret C hr hH hf dX10_relate_140
set_option maxHeartbeats 4000000 in
set_option maxRecDepth 100000 in
theorem wX10_relate_b61 {r : Int32} {h' : PH} (C : CT g RX10 cX10_relate 6 (Cond.code yX10_relate cX10_relate 6 (some .boolean) :: TB) p s m args meth c) (hr : meth.sig.returnType = some .boolean) {h : PH} {a0 : Nat} {x1 : Int32} {x2 : Int32} {x3 : Int32} {x4 : Int32} {s0 : Int32} {s1 : Int32} {H : Heap} {locs : List Loc} {ls : Array Slot} (hH : HS g s H locs h) (hf : mX10_relate_b61 h a0 x1 x2 x3 x4 s0 s1 = some (r, h')) (hl : lv_has ls 6 [(0, .ref (gB g + a0)), (1, .int x1), (2, .int x2), (3, .int x3), (4, .int x4)]) : W p l e (rmD 2 0 0) s m args below meth c H locs 0 0 (MQ below (QcI g r h') args s 0 0 (aB g)) (F0 m 61 ls [.int s1, .int s0]) := by
  obtain ⟨⟨hx, hb, hml, hown, hts⟩, htb, hlk, hkk, hbs⟩ := id C
  unfold mX10_relate_b61 at hf
  refine lv_icmp_eq (tgt := 80) hx hb dX10_relate_61 (by decide) (fun cn => ?_) (fun cn => ?_)
  · have hf := (if_pos cn).symm.trans hf
    refine lv_iconst (v := (0 : Int32)) hx hb dX10_relate_80 (by decide) ?_
    exact pg_zret C hr hH hf dX10_relate_81
  · have hf := (if_neg cn).symm.trans hf
    refine lv_iload_n hx hb dX10_relate_64 rfl (lv_at hl 3 rfl) ?_
    refine lv_if_eq (tgt := 82) hx hb dX10_relate_65 (by decide) (fun cn => ?_) (fun cn => ?_)
    · have hf := (if_pos cn).symm.trans hf
      exact wX10_relate_b82 C hr hH hf (lv_sub hl [0, 1, 2, 3, 4] rfl)
    · have hf := (if_neg cn).symm.trans hf
      refine lv_aload_n hx hb dX10_relate_68 rfl (lv_at hl 0 rfl) ?_
      refine pg_gR C hH fl_X10_13 hf dX10_relate_69 (fun v69 hf => ?_)
      refine lv_bipush (v := (11 : Int32)) hx hb dX10_relate_72 (by decide) ?_
      refine pg_aI C hH hf dX10_relate_74 (fun v74 hf => ?_)
      refine lv_bipush (v := (6 : Int32)) hx hb dX10_relate_75 (by decide) ?_
      refine lv_icmp_ne (tgt := 82) hx hb dX10_relate_77 (by decide) (fun cn => ?_) (fun cn => ?_)
      · have hf := (if_neg cn).symm.trans hf
        exact wX10_relate_b82 C hr hH hf (lv_sub hl [0, 1, 2, 3, 4] rfl)
      · have hf := (if_pos cn).symm.trans hf
        refine lv_iconst (v := (0 : Int32)) hx hb dX10_relate_80 (by decide) ?_
        exact pg_zret C hr hH hf dX10_relate_81
set_option maxHeartbeats 4000000 in
set_option maxRecDepth 100000 in
theorem c_X10_relate {l : Launch} {g : GD} {h : PH} {a0 : Nat} {x1 : Int32} {x2 : Int32} {x3 : Int32} {r : Int32} {h' : PH} (hf : mX10_relate h a0 x1 x2 x3 = some (r, h')) : Met l yX10_relate (Cond.code yX10_relate cX10_relate 6 (some .boolean) :: TB) (rmD 2 0 0) (PcH g [.ref (gB g + a0), .int x1, .int x2, .int x3] h) (QcI g r h') 0 0 (aB g) := by
  refine Met.ofW (cc := cX10_relate) (maxL := 6) (ret := some .boolean) (by decide) rfl ?_
  intro p e s m args below meth c s₁ B hml hv
  obtain ⟨rfl, hH0, hkk0⟩ := hv
  have C : CT g RX10 cX10_relate 6 (Cond.code yX10_relate cX10_relate 6 (some .boolean) :: TB) p s m _ meth c := pg_ct (Tw := []) B hml hH0 hkk0
  have hr := B.returns
  have hH : HS g s s.heap [] h := ⟨hH0, va_S.rf⟩
  have hl := lv_entry ([.ref (gB g + a0), .int x1, .int x2, .int x3]) (n := 6) (Nat.le_of_ble_eq_true rfl)
  rw [lg_entry_eq]
  generalize (lg_sl ([.ref (gB g + a0), .int x1, .int x2, .int x3]) ++ List.replicate (6 - (lg_sl ([.ref (gB g + a0), .int x1, .int x2, .int x3])).length) Slot.unset).toArray = ls at hl ⊢
  have hl : lv_has ls 6 [(0, .ref (gB g + a0)), (1, .int x1), (2, .int x2), (3, .int x3)] := hl
  show W p l e (rmD 2 0 0) _ _ _ _ _ _ _ _ _ _ _ _
  unfold mX10_relate at hf
  obtain ⟨hO, hf⟩ := oO_sp hf
  obtain ⟨⟨hx, hb, hml, hown, hts⟩, htb, hlk, hkk, hbs⟩ := id C
  refine lv_aload_n hx hb dX10_relate_0 rfl (lv_at hl 0 rfl) ?_
  refine lv_iconst (v := (0 : Int32)) hx hb dX10_relate_1 (by decide) ?_
  refine pg_pI C hH fl_X10_1 fm_10_0 hf dX10_relate_2 (fun H locs h2 hH hf => ?_)
  refine lv_aload_n hx hb dX10_relate_5 rfl (lv_at hl 0 rfl) ?_
  refine pg_gR C hH fl_X10_13 hf dX10_relate_6 (fun v6 hf => ?_)
  refine lv_iconst (v := (0 : Int32)) hx hb dX10_relate_9 (by decide) ?_
  refine pg_aI C hH hf dX10_relate_10 (fun v10 hf => ?_)
  refine lv_iload_n hx hb dX10_relate_11 rfl (lv_at hl 1 rfl) ?_
  refine pg_Si (As := [.int v10, .int x1]) C hH mi_X10_isIn sl_X10_278 hf (fun _ _ e1 => c_X10_isIn e1) rfl rfl hl.1 (Nat.le_of_ble_eq_true rfl) ⟨Nat.le_of_ble_eq_true rfl, Nat.le_of_ble_eq_true rfl⟩ ⟨Nat.zero_le _, Nat.zero_le _⟩ dX10_relate_12 (fun H locs v12 h12 hH hf => ?_)
  refine lv_if_eq (tgt := 36) hx hb dX10_relate_15 (by decide) (fun cn => ?_) (fun cn => ?_)
  · have hf := (if_pos cn).symm.trans hf
    refine lv_iconst (v := (0 : Int32)) hx hb dX10_relate_36 (by decide) ?_
    exact pg_zret C hr hH hf dX10_relate_37
  · have hf := (if_neg cn).symm.trans hf
    refine lv_aload_n hx hb dX10_relate_18 rfl (lv_at hl 0 rfl) ?_
    refine pg_gR C hH fl_X10_13 hf dX10_relate_19 (fun v19 hf => ?_)
    refine lv_iconst (v := (0 : Int32)) hx hb dX10_relate_22 (by decide) ?_
    refine pg_aI C hH hf dX10_relate_23 (fun v23 hf => ?_)
    refine lv_iload_n hx hb dX10_relate_24 rfl (lv_at hl 2 rfl) ?_
    refine pg_Si (As := [.int v23, .int x2]) C hH mi_X10_isIn sl_X10_278 hf (fun _ _ e1 => c_X10_isIn e1) rfl rfl hl.1 (Nat.le_of_ble_eq_true rfl) ⟨Nat.le_of_ble_eq_true rfl, Nat.le_of_ble_eq_true rfl⟩ ⟨Nat.zero_le _, Nat.zero_le _⟩ dX10_relate_25 (fun H locs v25 h25 hH hf => ?_)
    refine lv_if_eq (tgt := 36) hx hb dX10_relate_28 (by decide) (fun cn => ?_) (fun cn => ?_)
    · have hf := (if_pos cn).symm.trans hf
      refine lv_iconst (v := (0 : Int32)) hx hb dX10_relate_36 (by decide) ?_
      exact pg_zret C hr hH hf dX10_relate_37
    · have hf := (if_neg cn).symm.trans hf
      refine lv_iload_n hx hb dX10_relate_31 rfl (lv_at hl 1 rfl) ?_
      refine lv_iload_n hx hb dX10_relate_32 rfl (lv_at hl 2 rfl) ?_
      refine lv_icmp_ne (tgt := 38) hx hb dX10_relate_33 (by decide) (fun cn => ?_) (fun cn => ?_)
      · have hf := (if_neg cn).symm.trans hf
        refine lv_aload_n hx hb dX10_relate_38 rfl (lv_at hl 0 rfl) ?_
        refine pg_gR C hH fl_X10_13 hf dX10_relate_39 (fun v39 hf => ?_)
        refine lv_iload_n hx hb dX10_relate_42 rfl (lv_at hl 1 rfl) ?_
        refine lv_iload_n hx hb dX10_relate_43 rfl (lv_at hl 2 rfl) ?_
        refine pg_Si (As := [.ref (gB g + v39), .int x1, .int x2]) C hH mi_X10_pairOf sl_X10_209 hf (fun _ _ e1 => c_X10_pairOf e1) rfl rfl hl.1 (Nat.le_of_ble_eq_true rfl) ⟨Nat.le_of_ble_eq_true rfl, Nat.le_of_ble_eq_true rfl⟩ ⟨Nat.zero_le _, Nat.zero_le _⟩ dX10_relate_44 (fun H locs v44 h44 hH hf => ?_)
        refine lv_istore (lv' := [(4, .int v44), (0, .ref (gB g + a0)), (1, .int x1), (2, .int x2), (3, .int x3)]) hx hb dX10_relate_47 hl (by decide) rfl (fun ls hl => ?_)
        refine lv_iload_n hx hb dX10_relate_49 rfl (lv_at hl 4 rfl) ?_
        refine lv_iload hx hb dX10_relate_50 (lv_at hl 0 rfl) ?_
        refine lv_iconst (v := (-1 : Int32)) hx hb dX10_relate_52 (by decide) ?_
        refine lv_icmp_eq (tgt := 60) hx hb dX10_relate_53 (by decide) (fun cn => ?_) (fun cn => ?_)
        · have hf := (if_pos cn).symm.trans hf
          refine lv_iconst (v := (0 : Int32)) hx hb dX10_relate_60 (by decide) ?_
          exact wX10_relate_b61 C hr hH hf (lv_sub hl [1, 2, 3, 4, 0] rfl)
        · have hf := (if_neg cn).symm.trans hf
          refine lv_iconst (v := (1 : Int32)) hx hb dX10_relate_56 (by decide) ?_
          refine lv_goto (tgt := 61) hx hb dX10_relate_57 (by decide) ?_
          exact wX10_relate_b61 C hr hH hf (lv_sub hl [1, 2, 3, 4, 0] rfl)
      · have hf := (if_pos cn).symm.trans hf
        refine lv_iconst (v := (0 : Int32)) hx hb dX10_relate_36 (by decide) ?_
        exact pg_zret C hr hH hf dX10_relate_37
set_option maxHeartbeats 4000000 in
set_option maxRecDepth 100000 in
theorem c_X10_rule {l : Launch} {g : GD} {h : PH} {a0 : Nat} {x1 : Int32} {x2 : Int32} {r : Int32} {h' : PH} (hf : mX10_rule h a0 x1 x2 = some (r, h')) : Met l yX10_rule (Cond.code yX10_rule cX10_rule 3 (some .int) :: TB) (rmD 3 0 0) (PcH g [.ref (gB g + a0), .int x1, .int x2] h) (QcI g r h') 0 0 (aB g) := by
  refine Met.ofW (cc := cX10_rule) (maxL := 3) (ret := some .int) (by decide) rfl ?_
  intro p e s m args below meth c s₁ B hml hv
  obtain ⟨rfl, hH0, hkk0⟩ := hv
  have C : CT g RX10 cX10_rule 3 (Cond.code yX10_rule cX10_rule 3 (some .int) :: TB) p s m _ meth c := pg_ct (Tw := []) B hml hH0 hkk0
  have hr := B.returns
  have hH : HS g s s.heap [] h := ⟨hH0, va_S.rf⟩
  have hl := lv_entry ([.ref (gB g + a0), .int x1, .int x2]) (n := 3) (Nat.le_of_ble_eq_true rfl)
  rw [lg_entry_eq]
  generalize (lg_sl ([.ref (gB g + a0), .int x1, .int x2]) ++ List.replicate (3 - (lg_sl ([.ref (gB g + a0), .int x1, .int x2])).length) Slot.unset).toArray = ls at hl ⊢
  have hl : lv_has ls 3 [(0, .ref (gB g + a0)), (1, .int x1), (2, .int x2)] := hl
  show W p l e (rmD 3 0 0) _ _ _ _ _ _ _ _ _ _ _ _
  unfold mX10_rule at hf
  obtain ⟨hO, hf⟩ := oO_sp hf
  obtain ⟨⟨hx, hb, hml, hown, hts⟩, htb, hlk, hkk, hbs⟩ := id C
  refine lv_aload_n hx hb dX10_rule_0 rfl (lv_at hl 0 rfl) ?_
  refine lv_iconst (v := (0 : Int32)) hx hb dX10_rule_1 (by decide) ?_
  refine pg_pI C hH fl_X10_1 fm_10_0 hf dX10_rule_2 (fun H locs h2 hH hf => ?_)
  refine lv_iload_n hx hb dX10_rule_5 rfl (lv_at hl 1 rfl) ?_
  refine lv_i2l (v := (Int32.toInt64 x1)) hx hb dX10_rule_6 rfl ?_
  refine lv_lconst (v := (0 : Int64)) hx hb dX10_rule_7 (by decide) ?_
  refine lv_ldc2 (v := (3 : Int64)) hx hb hown (hts _ (htb _ kl_X10_293)) dX10_rule_8 ?_
  refine pg_Si (As := [.long (Int32.toInt64 x1), .long (0 : Int64), .long (3 : Int64)]) C hH mi_X10_within sl_X10_97 hf (fun _ _ e1 => c_X10_within e1) rfl rfl hl.1 (Nat.le_of_ble_eq_true rfl) ⟨Nat.le_of_ble_eq_true rfl, Nat.le_of_ble_eq_true rfl⟩ ⟨Nat.zero_le _, Nat.zero_le _⟩ dX10_rule_11 (fun H locs v11 h11 hH hf => ?_)
  refine lv_if_eq (tgt := 53) hx hb dX10_rule_14 (by decide) (fun cn => ?_) (fun cn => ?_)
  · have hf := (if_pos cn).symm.trans hf
    refine lv_iconst (v := (-1 : Int32)) hx hb dX10_rule_53 (by decide) ?_
    exact pg_iret C hr hH hf dX10_rule_54
  · have hf := (if_neg cn).symm.trans hf
    refine lv_iload_n hx hb dX10_rule_17 rfl (lv_at hl 2 rfl) ?_
    refine lv_i2l (v := (Int32.toInt64 x2)) hx hb dX10_rule_18 rfl ?_
    refine lv_bipush (v := (6 : Int32)) hx hb dX10_rule_19 (by decide) ?_
    refine lv_iload_n hx hb dX10_rule_21 rfl (lv_at hl 1 rfl) ?_
    refine lv_iadd hx hb dX10_rule_22 ?_
    refine pg_Si (As := [.int ((6 : Int32) + x1)]) C hH mi_X10_leastOf sl_X10_232 hf (fun _ _ e1 => c_X10_leastOf e1) rfl rfl hl.1 (Nat.le_of_ble_eq_true rfl) ⟨Nat.le_of_ble_eq_true rfl, Nat.le_of_ble_eq_true rfl⟩ ⟨Nat.zero_le _, Nat.zero_le _⟩ dX10_rule_23 (fun H locs v23 h23 hH hf => ?_)
    refine lv_i2l (v := (Int32.toInt64 v23)) hx hb dX10_rule_26 rfl ?_
    refine lv_bipush (v := (6 : Int32)) hx hb dX10_rule_27 (by decide) ?_
    refine lv_iload_n hx hb dX10_rule_29 rfl (lv_at hl 1 rfl) ?_
    refine lv_iadd hx hb dX10_rule_30 ?_
    refine pg_Si (As := [.int ((6 : Int32) + x1)]) C hH mi_X10_mostOf sl_X10_235 hf (fun _ _ e1 => c_X10_mostOf e1) rfl rfl hl.1 (Nat.le_of_ble_eq_true rfl) ⟨Nat.le_of_ble_eq_true rfl, Nat.le_of_ble_eq_true rfl⟩ ⟨Nat.zero_le _, Nat.zero_le _⟩ dX10_rule_31 (fun H locs v31 h31 hH hf => ?_)
    refine lv_i2l (v := (Int32.toInt64 v31)) hx hb dX10_rule_34 rfl ?_
    refine pg_Si (As := [.long (Int32.toInt64 x2), .long (Int32.toInt64 v23), .long (Int32.toInt64 v31)]) C hH mi_X10_within sl_X10_97 hf (fun _ _ e1 => c_X10_within e1) rfl rfl hl.1 (Nat.le_of_ble_eq_true rfl) ⟨Nat.le_of_ble_eq_true rfl, Nat.le_of_ble_eq_true rfl⟩ ⟨Nat.zero_le _, Nat.zero_le _⟩ dX10_rule_35 (fun H locs v35 h35 hH hf => ?_)
    refine lv_if_eq (tgt := 53) hx hb dX10_rule_38 (by decide) (fun cn => ?_) (fun cn => ?_)
    · have hf := (if_pos cn).symm.trans hf
      refine lv_iconst (v := (-1 : Int32)) hx hb dX10_rule_53 (by decide) ?_
      exact pg_iret C hr hH hf dX10_rule_54
    · have hf := (if_neg cn).symm.trans hf
      refine lv_aload_n hx hb dX10_rule_41 rfl (lv_at hl 0 rfl) ?_
      refine lv_bipush (v := (6 : Int32)) hx hb dX10_rule_42 (by decide) ?_
      refine lv_iload_n hx hb dX10_rule_44 rfl (lv_at hl 1 rfl) ?_
      refine lv_iadd hx hb dX10_rule_45 ?_
      refine lv_iload_n hx hb dX10_rule_46 rfl (lv_at hl 2 rfl) ?_
      refine pg_Vi (As := [.int ((6 : Int32) + x1), .int x2]) C hH mi_X10_sets vl_X10_458 (q := (RX10, TX10, 34)) (ci := 10) rfl rfl hf (fun _ e1 => (oO_sp e1).1) (fun _ _ e1 => c_X10_sets e1) rfl rfl hl.1 (Nat.le_of_ble_eq_true rfl) ⟨Nat.le_of_ble_eq_true rfl, Nat.le_of_ble_eq_true rfl⟩ ⟨Nat.zero_le _, Nat.zero_le _⟩ dX10_rule_47 (fun H locs v47 h47 hH hf => ?_)
      refine lv_goto (tgt := 54) hx hb dX10_rule_50 (by decide) ?_
      exact pg_iret C hr hH hf dX10_rule_54
set_option maxHeartbeats 4000000 in
set_option maxRecDepth 100000 in
theorem c_X10_turn {l : Launch} {g : GD} {h : PH} {a0 : Nat} {r : Int32} {h' : PH} (hf : mX10_turn h a0 = some (r, h')) : Met l yX10_turn (Cond.code yX10_turn cX10_turn 1 (some .int) :: TB) (rmD 2 0 0) (PcH g [.ref (gB g + a0)] h) (QcI g r h') 0 0 (aB g) := by
  refine Met.ofW (cc := cX10_turn) (maxL := 1) (ret := some .int) (by decide) rfl ?_
  intro p e s m args below meth c s₁ B hml hv
  obtain ⟨rfl, hH0, hkk0⟩ := hv
  have C : CT g RX10 cX10_turn 1 (Cond.code yX10_turn cX10_turn 1 (some .int) :: TB) p s m _ meth c := pg_ct (Tw := []) B hml hH0 hkk0
  have hr := B.returns
  have hH : HS g s s.heap [] h := ⟨hH0, va_S.rf⟩
  have hl := lv_entry ([.ref (gB g + a0)]) (n := 1) (Nat.le_of_ble_eq_true rfl)
  rw [lg_entry_eq]
  generalize (lg_sl ([.ref (gB g + a0)]) ++ List.replicate (1 - (lg_sl ([.ref (gB g + a0)])).length) Slot.unset).toArray = ls at hl ⊢
  have hl : lv_has ls 1 [(0, .ref (gB g + a0))] := hl
  show W p l e (rmD 2 0 0) _ _ _ _ _ _ _ _ _ _ _ _
  unfold mX10_turn at hf
  obtain ⟨hO, hf⟩ := oO_sp hf
  obtain ⟨⟨hx, hb, hml, hown, hts⟩, htb, hlk, hkk, hbs⟩ := id C
  refine lv_aload_n hx hb dX10_turn_0 rfl (lv_at hl 0 rfl) ?_
  refine lv_iconst (v := (0 : Int32)) hx hb dX10_turn_1 (by decide) ?_
  refine pg_pI C hH fl_X10_1 fm_10_0 hf dX10_turn_2 (fun H locs h2 hH hf => ?_)
  refine lv_aload_n hx hb dX10_turn_5 rfl (lv_at hl 0 rfl) ?_
  refine pg_Vv (As := []) C hH mi_X10_acts vl_X10_453 (q := (RX10, TX10, 34)) (ci := 10) rfl rfl hf (fun _ e1 => (oO_sp e1).1) (fun _ e1 => c_X10_acts e1) rfl rfl hl.1 (Nat.le_of_ble_eq_true rfl) ⟨Nat.le_of_ble_eq_true rfl, Nat.le_of_ble_eq_true rfl⟩ ⟨Nat.zero_le _, Nat.zero_le _⟩ dX10_turn_6 (fun H locs h6 hH hf => ?_)
  refine lv_aload_n hx hb dX10_turn_9 rfl (lv_at hl 0 rfl) ?_
  refine pg_gR C hH fl_X10_13 hf dX10_turn_10 (fun v10 hf => ?_)
  refine lv_bipush (v := (10 : Int32)) hx hb dX10_turn_13 (by decide) ?_
  refine lv_iconst (v := (1 : Int32)) hx hb dX10_turn_15 (by decide) ?_
  refine lv_aload_n hx hb dX10_turn_16 rfl (lv_at hl 0 rfl) ?_
  refine pg_gR C hH fl_X10_13 hf dX10_turn_17 (fun v17 hf => ?_)
  refine lv_bipush (v := (10 : Int32)) hx hb dX10_turn_20 (by decide) ?_
  refine pg_aI C hH hf dX10_turn_22 (fun v22 hf => ?_)
  refine lv_isub hx hb dX10_turn_23 ?_
  refine pg_sI C hH hf dX10_turn_24 (fun H locs h24 hH hf => ?_)
  refine lv_aload_n hx hb dX10_turn_25 rfl (lv_at hl 0 rfl) ?_
  refine pg_gR C hH fl_X10_13 hf dX10_turn_26 (fun v26 hf => ?_)
  refine lv_bipush (v := (10 : Int32)) hx hb dX10_turn_29 (by decide) ?_
  refine pg_aI C hH hf dX10_turn_31 (fun v31 hf => ?_)
  exact pg_iret C hr hH hf dX10_turn_32
set_option maxHeartbeats 4000000 in
set_option maxRecDepth 100000 in
theorem c_X10_resell {l : Launch} {g : GD} {h : PH} {a0 : Nat} {x1 : Int32} {x2 : Int32} {x3 : Int32} {x4 : Int32} {r : Int32} {h' : PH} (hf : mX10_resell h a0 x1 x2 x3 x4 = some (r, h')) : Met l yX10_resell (Cond.code yX10_resell cX10_resell 6 (some .int) :: TB) (rmD 2 0 0) (PcH g [.ref (gB g + a0), .int x1, .int x2, .int x3, .int x4] h) (QcI g r h') 0 0 (aB g) := by
  refine Met.ofW (cc := cX10_resell) (maxL := 6) (ret := some .int) (by decide) rfl ?_
  intro p e s m args below meth c s₁ B hml hv
  obtain ⟨rfl, hH0, hkk0⟩ := hv
  have C : CT g RX10 cX10_resell 6 (Cond.code yX10_resell cX10_resell 6 (some .int) :: TB) p s m _ meth c := pg_ct (Tw := []) B hml hH0 hkk0
  have hr := B.returns
  have hH : HS g s s.heap [] h := ⟨hH0, va_S.rf⟩
  have hl := lv_entry ([.ref (gB g + a0), .int x1, .int x2, .int x3, .int x4]) (n := 6) (Nat.le_of_ble_eq_true rfl)
  rw [lg_entry_eq]
  generalize (lg_sl ([.ref (gB g + a0), .int x1, .int x2, .int x3, .int x4]) ++ List.replicate (6 - (lg_sl ([.ref (gB g + a0), .int x1, .int x2, .int x3, .int x4])).length) Slot.unset).toArray = ls at hl ⊢
  have hl : lv_has ls 6 [(0, .ref (gB g + a0)), (1, .int x1), (2, .int x2), (3, .int x3), (4, .int x4)] := hl
  show W p l e (rmD 2 0 0) _ _ _ _ _ _ _ _ _ _ _ _
  unfold mX10_resell at hf
  obtain ⟨hO, hf⟩ := oO_sp hf
  obtain ⟨⟨hx, hb, hml, hown, hts⟩, htb, hlk, hkk, hbs⟩ := id C
  refine lv_aload_n hx hb dX10_resell_0 rfl (lv_at hl 0 rfl) ?_
  refine lv_iconst (v := (0 : Int32)) hx hb dX10_resell_1 (by decide) ?_
  refine pg_pI C hH fl_X10_1 fm_10_0 hf dX10_resell_2 (fun H locs h2 hH hf => ?_)
  refine lv_aload_n hx hb dX10_resell_5 rfl (lv_at hl 0 rfl) ?_
  refine pg_gR C hH fl_X10_13 hf dX10_resell_6 (fun v6 hf => ?_)
  refine lv_iconst (v := (1 : Int32)) hx hb dX10_resell_9 (by decide) ?_
  refine pg_aI C hH hf dX10_resell_10 (fun v10 hf => ?_)
  refine lv_iload_n hx hb dX10_resell_11 rfl (lv_at hl 1 rfl) ?_
  refine pg_Si (As := [.int v10, .int x1]) C hH mi_X10_isIn sl_X10_278 hf (fun _ _ e1 => c_X10_isIn e1) rfl rfl hl.1 (Nat.le_of_ble_eq_true rfl) ⟨Nat.le_of_ble_eq_true rfl, Nat.le_of_ble_eq_true rfl⟩ ⟨Nat.zero_le _, Nat.zero_le _⟩ dX10_resell_12 (fun H locs v12 h12 hH hf => ?_)
  refine lv_if_eq (tgt := 66) hx hb dX10_resell_15 (by decide) (fun cn => ?_) (fun cn => ?_)
  · have hf := (if_pos cn).symm.trans hf
    refine lv_iconst (v := (-1 : Int32)) hx hb dX10_resell_66 (by decide) ?_
    exact pg_iret C hr hH hf dX10_resell_67
  · have hf := (if_neg cn).symm.trans hf
    refine lv_iload_n hx hb dX10_resell_18 rfl (lv_at hl 2 rfl) ?_
    refine lv_i2l (v := (Int32.toInt64 x2)) hx hb dX10_resell_19 rfl ?_
    refine lv_lconst (v := (1 : Int64)) hx hb dX10_resell_20 (by decide) ?_
    refine lv_ldc2 (v := (9999 : Int64)) hx hb hown (hts _ (htb _ kl_X10_456)) dX10_resell_21 ?_
    refine pg_Si (As := [.long (Int32.toInt64 x2), .long (1 : Int64), .long (9999 : Int64)]) C hH mi_X10_within sl_X10_97 hf (fun _ _ e1 => c_X10_within e1) rfl rfl hl.1 (Nat.le_of_ble_eq_true rfl) ⟨Nat.le_of_ble_eq_true rfl, Nat.le_of_ble_eq_true rfl⟩ ⟨Nat.zero_le _, Nat.zero_le _⟩ dX10_resell_24 (fun H locs v24 h24 hH hf => ?_)
    refine lv_if_eq (tgt := 66) hx hb dX10_resell_27 (by decide) (fun cn => ?_) (fun cn => ?_)
    · have hf := (if_pos cn).symm.trans hf
      refine lv_iconst (v := (-1 : Int32)) hx hb dX10_resell_66 (by decide) ?_
      exact pg_iret C hr hH hf dX10_resell_67
    · have hf := (if_neg cn).symm.trans hf
      refine lv_iload_n hx hb dX10_resell_30 rfl (lv_at hl 3 rfl) ?_
      refine lv_i2l (v := (Int32.toInt64 x3)) hx hb dX10_resell_31 rfl ?_
      refine lv_lconst (v := (1 : Int64)) hx hb dX10_resell_32 (by decide) ?_
      refine lv_ldc2 (v := (9999 : Int64)) hx hb hown (hts _ (htb _ kl_X10_456)) dX10_resell_33 ?_
      refine pg_Si (As := [.long (Int32.toInt64 x3), .long (1 : Int64), .long (9999 : Int64)]) C hH mi_X10_within sl_X10_97 hf (fun _ _ e1 => c_X10_within e1) rfl rfl hl.1 (Nat.le_of_ble_eq_true rfl) ⟨Nat.le_of_ble_eq_true rfl, Nat.le_of_ble_eq_true rfl⟩ ⟨Nat.zero_le _, Nat.zero_le _⟩ dX10_resell_36 (fun H locs v36 h36 hH hf => ?_)
      refine lv_if_eq (tgt := 66) hx hb dX10_resell_39 (by decide) (fun cn => ?_) (fun cn => ?_)
      · have hf := (if_pos cn).symm.trans hf
        refine lv_iconst (v := (-1 : Int32)) hx hb dX10_resell_66 (by decide) ?_
        exact pg_iret C hr hH hf dX10_resell_67
      · have hf := (if_neg cn).symm.trans hf
        refine lv_iload hx hb dX10_resell_42 (lv_at hl 4 rfl) ?_
        refine lv_i2l (v := (Int32.toInt64 x4)) hx hb dX10_resell_44 rfl ?_
        refine lv_lconst (v := (0 : Int64)) hx hb dX10_resell_45 (by decide) ?_
        refine lv_ldc2 (v := (999 : Int64)) hx hb hown (hts _ (htb _ kl_X10_461)) dX10_resell_46 ?_
        refine pg_Si (As := [.long (Int32.toInt64 x4), .long (0 : Int64), .long (999 : Int64)]) C hH mi_X10_within sl_X10_97 hf (fun _ _ e1 => c_X10_within e1) rfl rfl hl.1 (Nat.le_of_ble_eq_true rfl) ⟨Nat.le_of_ble_eq_true rfl, Nat.le_of_ble_eq_true rfl⟩ ⟨Nat.zero_le _, Nat.zero_le _⟩ dX10_resell_49 (fun H locs v49 h49 hH hf => ?_)
        refine lv_if_eq (tgt := 66) hx hb dX10_resell_52 (by decide) (fun cn => ?_) (fun cn => ?_)
        · have hf := (if_pos cn).symm.trans hf
          refine lv_iconst (v := (-1 : Int32)) hx hb dX10_resell_66 (by decide) ?_
          exact pg_iret C hr hH hf dX10_resell_67
        · have hf := (if_neg cn).symm.trans hf
          refine lv_aload_n hx hb dX10_resell_55 rfl (lv_at hl 0 rfl) ?_
          refine pg_gR C hH fl_X10_13 hf dX10_resell_56 (fun v56 hf => ?_)
          refine lv_iconst (v := (4 : Int32)) hx hb dX10_resell_59 (by decide) ?_
          refine pg_aI C hH hf dX10_resell_60 (fun v60 hf => ?_)
          refine lv_bipush (v := (12 : Int32)) hx hb dX10_resell_61 (by decide) ?_
          refine lv_icmp_ne (tgt := 68) hx hb dX10_resell_63 (by decide) (fun cn => ?_) (fun cn => ?_)
          · have hf := (if_neg cn).symm.trans hf
            refine lv_aload_n hx hb dX10_resell_68 rfl (lv_at hl 0 rfl) ?_
            refine pg_Vv (As := []) C hH mi_X10_acts vl_X10_453 (q := (RX10, TX10, 34)) (ci := 10) rfl rfl hf (fun _ e1 => (oO_sp e1).1) (fun _ e1 => c_X10_acts e1) rfl rfl hl.1 (Nat.le_of_ble_eq_true rfl) ⟨Nat.le_of_ble_eq_true rfl, Nat.le_of_ble_eq_true rfl⟩ ⟨Nat.zero_le _, Nat.zero_le _⟩ dX10_resell_69 (fun H locs h69 hH hf => ?_)
            refine lv_sipush (v := (176 : Int32)) hx hb dX10_resell_72 (by decide) ?_
            refine lv_iconst (v := (4 : Int32)) hx hb dX10_resell_75 (by decide) ?_
            refine lv_aload_n hx hb dX10_resell_76 rfl (lv_at hl 0 rfl) ?_
            refine pg_gR C hH fl_X10_13 hf dX10_resell_77 (fun v77 hf => ?_)
            refine lv_iconst (v := (4 : Int32)) hx hb dX10_resell_80 (by decide) ?_
            refine pg_aI C hH hf dX10_resell_81 (fun v81 hf => ?_)
            refine lv_imul hx hb dX10_resell_82 ?_
            refine lv_iadd hx hb dX10_resell_83 ?_
            refine lv_istore (lv' := [(5, .int ((176 : Int32) + ((4 : Int32) * v81))), (0, .ref (gB g + a0)), (1, .int x1), (2, .int x2), (3, .int x3), (4, .int x4)]) hx hb dX10_resell_84 hl (by decide) rfl (fun ls hl => ?_)
            refine lv_aload_n hx hb dX10_resell_86 rfl (lv_at hl 1 rfl) ?_
            refine pg_gR C hH fl_X10_13 hf dX10_resell_87 (fun v87 hf => ?_)
            refine lv_iload hx hb dX10_resell_90 (lv_at hl 0 rfl) ?_
            refine lv_iconst (v := (0 : Int32)) hx hb dX10_resell_92 (by decide) ?_
            refine lv_iadd hx hb dX10_resell_93 ?_
            refine lv_iload_n hx hb dX10_resell_94 rfl (lv_at hl 2 rfl) ?_
            refine pg_sI C hH hf dX10_resell_95 (fun H locs h95 hH hf => ?_)
            refine lv_aload_n hx hb dX10_resell_96 rfl (lv_at hl 1 rfl) ?_
            refine pg_gR C hH fl_X10_13 hf dX10_resell_97 (fun v97 hf => ?_)
            refine lv_iload hx hb dX10_resell_100 (lv_at hl 0 rfl) ?_
            refine lv_iconst (v := (1 : Int32)) hx hb dX10_resell_102 (by decide) ?_
            refine lv_iadd hx hb dX10_resell_103 ?_
            refine lv_iload_n hx hb dX10_resell_104 rfl (lv_at hl 3 rfl) ?_
            refine pg_sI C hH hf dX10_resell_105 (fun H locs h105 hH hf => ?_)
            refine lv_aload_n hx hb dX10_resell_106 rfl (lv_at hl 1 rfl) ?_
            refine pg_gR C hH fl_X10_13 hf dX10_resell_107 (fun v107 hf => ?_)
            refine lv_iload hx hb dX10_resell_110 (lv_at hl 0 rfl) ?_
            refine lv_iconst (v := (2 : Int32)) hx hb dX10_resell_112 (by decide) ?_
            refine lv_iadd hx hb dX10_resell_113 ?_
            refine lv_iload_n hx hb dX10_resell_114 rfl (lv_at hl 4 rfl) ?_
            refine pg_sI C hH hf dX10_resell_115 (fun H locs h115 hH hf => ?_)
            refine lv_aload_n hx hb dX10_resell_116 rfl (lv_at hl 1 rfl) ?_
            refine pg_gR C hH fl_X10_13 hf dX10_resell_117 (fun v117 hf => ?_)
            refine lv_iload hx hb dX10_resell_120 (lv_at hl 0 rfl) ?_
            refine lv_iconst (v := (3 : Int32)) hx hb dX10_resell_122 (by decide) ?_
            refine lv_iadd hx hb dX10_resell_123 ?_
            refine lv_iload hx hb dX10_resell_124 (lv_at hl 5 rfl) ?_
            refine pg_sI C hH hf dX10_resell_126 (fun H locs h126 hH hf => ?_)
            refine lv_aload_n hx hb dX10_resell_127 rfl (lv_at hl 1 rfl) ?_
            refine pg_gR C hH fl_X10_13 hf dX10_resell_128 (fun v128 hf => ?_)
            refine lv_iconst (v := (4 : Int32)) hx hb dX10_resell_131 (by decide) ?_
            refine lv_dup2_11 hx hb dX10_resell_132 rfl rfl ?_
            refine pg_aI C hH hf dX10_resell_133 (fun v133 hf => ?_)
            refine lv_iconst (v := (1 : Int32)) hx hb dX10_resell_134 (by decide) ?_
            refine lv_iadd hx hb dX10_resell_135 ?_
            refine pg_sI C hH hf dX10_resell_136 (fun H locs h136 hH hf => ?_)
            refine lv_aload_n hx hb dX10_resell_137 rfl (lv_at hl 1 rfl) ?_
            refine pg_gR C hH fl_X10_13 hf dX10_resell_138 (fun v138 hf => ?_)
            refine lv_iconst (v := (4 : Int32)) hx hb dX10_resell_141 (by decide) ?_
            refine pg_aI C hH hf dX10_resell_142 (fun v142 hf => ?_)
            refine lv_iconst (v := (1 : Int32)) hx hb dX10_resell_143 (by decide) ?_
            refine lv_isub hx hb dX10_resell_144 ?_
            exact pg_iret C hr hH hf dX10_resell_145
          · have hf := (if_pos cn).symm.trans hf
            refine lv_iconst (v := (-1 : Int32)) hx hb dX10_resell_66 (by decide) ?_
            exact pg_iret C hr hH hf dX10_resell_67
set_option maxHeartbeats 4000000 in
set_option maxRecDepth 100000 in
theorem c_X10_spread {l : Launch} {g : GD} {h : PH} {a0 : Nat} {x1 : Int32} {x2 : Int32} {r : Int32} {h' : PH} (hf : mX10_spread h a0 x1 x2 = some (r, h')) : Met l yX10_spread (Cond.code yX10_spread cX10_spread 3 (some .int) :: TB) (rmD 3 0 0) (PcH g [.ref (gB g + a0), .int x1, .int x2] h) (QcI g r h') 0 0 (aB g) := by
  refine Met.ofW (cc := cX10_spread) (maxL := 3) (ret := some .int) (by decide) rfl ?_
  intro p e s m args below meth c s₁ B hml hv
  obtain ⟨rfl, hH0, hkk0⟩ := hv
  have C : CT g RX10 cX10_spread 3 (Cond.code yX10_spread cX10_spread 3 (some .int) :: TB) p s m _ meth c := pg_ct (Tw := []) B hml hH0 hkk0
  have hr := B.returns
  have hH : HS g s s.heap [] h := ⟨hH0, va_S.rf⟩
  have hl := lv_entry ([.ref (gB g + a0), .int x1, .int x2]) (n := 3) (Nat.le_of_ble_eq_true rfl)
  rw [lg_entry_eq]
  generalize (lg_sl ([.ref (gB g + a0), .int x1, .int x2]) ++ List.replicate (3 - (lg_sl ([.ref (gB g + a0), .int x1, .int x2])).length) Slot.unset).toArray = ls at hl ⊢
  have hl : lv_has ls 3 [(0, .ref (gB g + a0)), (1, .int x1), (2, .int x2)] := hl
  show W p l e (rmD 3 0 0) _ _ _ _ _ _ _ _ _ _ _ _
  unfold mX10_spread at hf
  obtain ⟨hO, hf⟩ := oO_sp hf
  obtain ⟨⟨hx, hb, hml, hown, hts⟩, htb, hlk, hkk, hbs⟩ := id C
  refine lv_aload_n hx hb dX10_spread_0 rfl (lv_at hl 0 rfl) ?_
  refine lv_iconst (v := (0 : Int32)) hx hb dX10_spread_1 (by decide) ?_
  refine pg_pI C hH fl_X10_1 fm_10_0 hf dX10_spread_2 (fun H locs h2 hH hf => ?_)
  refine lv_aload_n hx hb dX10_spread_5 rfl (lv_at hl 0 rfl) ?_
  refine pg_gR C hH fl_X10_13 hf dX10_spread_6 (fun v6 hf => ?_)
  refine lv_iconst (v := (2 : Int32)) hx hb dX10_spread_9 (by decide) ?_
  refine pg_aI C hH hf dX10_spread_10 (fun v10 hf => ?_)
  refine lv_iload_n hx hb dX10_spread_11 rfl (lv_at hl 1 rfl) ?_
  refine pg_Si (As := [.int v10, .int x1]) C hH mi_X10_isIn sl_X10_278 hf (fun _ _ e1 => c_X10_isIn e1) rfl rfl hl.1 (Nat.le_of_ble_eq_true rfl) ⟨Nat.le_of_ble_eq_true rfl, Nat.le_of_ble_eq_true rfl⟩ ⟨Nat.zero_le _, Nat.zero_le _⟩ dX10_spread_12 (fun H locs v12 h12 hH hf => ?_)
  refine lv_if_eq (tgt := 46) hx hb dX10_spread_15 (by decide) (fun cn => ?_) (fun cn => ?_)
  · have hf := (if_pos cn).symm.trans hf
    refine lv_iconst (v := (-1 : Int32)) hx hb dX10_spread_46 (by decide) ?_
    exact pg_iret C hr hH hf dX10_spread_47
  · have hf := (if_neg cn).symm.trans hf
    refine lv_iload_n hx hb dX10_spread_18 rfl (lv_at hl 2 rfl) ?_
    refine lv_i2l (v := (Int32.toInt64 x2)) hx hb dX10_spread_19 rfl ?_
    refine lv_lconst (v := (0 : Int64)) hx hb dX10_spread_20 (by decide) ?_
    refine lv_ldc2 (v := (9999 : Int64)) hx hb hown (hts _ (htb _ kl_X10_456)) dX10_spread_21 ?_
    refine pg_Si (As := [.long (Int32.toInt64 x2), .long (0 : Int64), .long (9999 : Int64)]) C hH mi_X10_within sl_X10_97 hf (fun _ _ e1 => c_X10_within e1) rfl rfl hl.1 (Nat.le_of_ble_eq_true rfl) ⟨Nat.le_of_ble_eq_true rfl, Nat.le_of_ble_eq_true rfl⟩ ⟨Nat.zero_le _, Nat.zero_le _⟩ dX10_spread_24 (fun H locs v24 h24 hH hf => ?_)
    refine lv_if_eq (tgt := 46) hx hb dX10_spread_27 (by decide) (fun cn => ?_) (fun cn => ?_)
    · have hf := (if_pos cn).symm.trans hf
      refine lv_iconst (v := (-1 : Int32)) hx hb dX10_spread_46 (by decide) ?_
      exact pg_iret C hr hH hf dX10_spread_47
    · have hf := (if_neg cn).symm.trans hf
      refine lv_aload_n hx hb dX10_spread_30 rfl (lv_at hl 0 rfl) ?_
      refine lv_bipush (v := (48 : Int32)) hx hb dX10_spread_31 (by decide) ?_
      refine lv_iconst (v := (2 : Int32)) hx hb dX10_spread_33 (by decide) ?_
      refine lv_iload_n hx hb dX10_spread_34 rfl (lv_at hl 1 rfl) ?_
      refine lv_imul hx hb dX10_spread_35 ?_
      refine lv_iadd hx hb dX10_spread_36 ?_
      refine lv_iconst (v := (1 : Int32)) hx hb dX10_spread_37 (by decide) ?_
      refine lv_iadd hx hb dX10_spread_38 ?_
      refine lv_iload_n hx hb dX10_spread_39 rfl (lv_at hl 2 rfl) ?_
      refine pg_Vi (As := [.int (((48 : Int32) + ((2 : Int32) * x1)) + (1 : Int32)), .int x2]) C hH mi_X10_sets vl_X10_458 (q := (RX10, TX10, 34)) (ci := 10) rfl rfl hf (fun _ e1 => (oO_sp e1).1) (fun _ _ e1 => c_X10_sets e1) rfl rfl hl.1 (Nat.le_of_ble_eq_true rfl) ⟨Nat.le_of_ble_eq_true rfl, Nat.le_of_ble_eq_true rfl⟩ ⟨Nat.zero_le _, Nat.zero_le _⟩ dX10_spread_40 (fun H locs v40 h40 hH hf => ?_)
      refine lv_goto (tgt := 47) hx hb dX10_spread_43 (by decide) ?_
      exact pg_iret C hr hH hf dX10_spread_47
set_option maxHeartbeats 4000000 in
set_option maxRecDepth 100000 in
theorem c_X10_lessen {l : Launch} {g : GD} {h : PH} {a0 : Nat} {x1 : Int32} {x2 : Int32} {r : Int32} {h' : PH} (hf : mX10_lessen h a0 x1 x2 = some (r, h')) : Met l yX10_lessen (Cond.code yX10_lessen cX10_lessen 3 (some .int) :: TB) (rmD 3 0 0) (PcH g [.ref (gB g + a0), .int x1, .int x2] h) (QcI g r h') 0 0 (aB g) := by
  refine Met.ofW (cc := cX10_lessen) (maxL := 3) (ret := some .int) (by decide) rfl ?_
  intro p e s m args below meth c s₁ B hml hv
  obtain ⟨rfl, hH0, hkk0⟩ := hv
  have C : CT g RX10 cX10_lessen 3 (Cond.code yX10_lessen cX10_lessen 3 (some .int) :: TB) p s m _ meth c := pg_ct (Tw := []) B hml hH0 hkk0
  have hr := B.returns
  have hH : HS g s s.heap [] h := ⟨hH0, va_S.rf⟩
  have hl := lv_entry ([.ref (gB g + a0), .int x1, .int x2]) (n := 3) (Nat.le_of_ble_eq_true rfl)
  rw [lg_entry_eq]
  generalize (lg_sl ([.ref (gB g + a0), .int x1, .int x2]) ++ List.replicate (3 - (lg_sl ([.ref (gB g + a0), .int x1, .int x2])).length) Slot.unset).toArray = ls at hl ⊢
  have hl : lv_has ls 3 [(0, .ref (gB g + a0)), (1, .int x1), (2, .int x2)] := hl
  show W p l e (rmD 3 0 0) _ _ _ _ _ _ _ _ _ _ _ _
  unfold mX10_lessen at hf
  obtain ⟨hO, hf⟩ := oO_sp hf
  obtain ⟨⟨hx, hb, hml, hown, hts⟩, htb, hlk, hkk, hbs⟩ := id C
  refine lv_aload_n hx hb dX10_lessen_0 rfl (lv_at hl 0 rfl) ?_
  refine lv_iconst (v := (0 : Int32)) hx hb dX10_lessen_1 (by decide) ?_
  refine pg_pI C hH fl_X10_1 fm_10_0 hf dX10_lessen_2 (fun H locs h2 hH hf => ?_)
  refine lv_aload_n hx hb dX10_lessen_5 rfl (lv_at hl 0 rfl) ?_
  refine pg_gR C hH fl_X10_13 hf dX10_lessen_6 (fun v6 hf => ?_)
  refine lv_iconst (v := (5 : Int32)) hx hb dX10_lessen_9 (by decide) ?_
  refine pg_aI C hH hf dX10_lessen_10 (fun v10 hf => ?_)
  refine lv_iload_n hx hb dX10_lessen_11 rfl (lv_at hl 1 rfl) ?_
  refine pg_Si (As := [.int v10, .int x1]) C hH mi_X10_isIn sl_X10_278 hf (fun _ _ e1 => c_X10_isIn e1) rfl rfl hl.1 (Nat.le_of_ble_eq_true rfl) ⟨Nat.le_of_ble_eq_true rfl, Nat.le_of_ble_eq_true rfl⟩ ⟨Nat.zero_le _, Nat.zero_le _⟩ dX10_lessen_12 (fun H locs v12 h12 hH hf => ?_)
  refine lv_if_eq (tgt := 47) hx hb dX10_lessen_15 (by decide) (fun cn => ?_) (fun cn => ?_)
  · have hf := (if_pos cn).symm.trans hf
    refine lv_iconst (v := (-1 : Int32)) hx hb dX10_lessen_47 (by decide) ?_
    exact pg_iret C hr hH hf dX10_lessen_48
  · have hf := (if_neg cn).symm.trans hf
    refine lv_iload_n hx hb dX10_lessen_18 rfl (lv_at hl 2 rfl) ?_
    refine lv_i2l (v := (Int32.toInt64 x2)) hx hb dX10_lessen_19 rfl ?_
    refine lv_lconst (v := (0 : Int64)) hx hb dX10_lessen_20 (by decide) ?_
    refine lv_ldc2 (v := (90 : Int64)) hx hb hown (hts _ (htb _ kl_X10_463)) dX10_lessen_21 ?_
    refine pg_Si (As := [.long (Int32.toInt64 x2), .long (0 : Int64), .long (90 : Int64)]) C hH mi_X10_within sl_X10_97 hf (fun _ _ e1 => c_X10_within e1) rfl rfl hl.1 (Nat.le_of_ble_eq_true rfl) ⟨Nat.le_of_ble_eq_true rfl, Nat.le_of_ble_eq_true rfl⟩ ⟨Nat.zero_le _, Nat.zero_le _⟩ dX10_lessen_24 (fun H locs v24 h24 hH hf => ?_)
    refine lv_if_eq (tgt := 47) hx hb dX10_lessen_27 (by decide) (fun cn => ?_) (fun cn => ?_)
    · have hf := (if_pos cn).symm.trans hf
      refine lv_iconst (v := (-1 : Int32)) hx hb dX10_lessen_47 (by decide) ?_
      exact pg_iret C hr hH hf dX10_lessen_48
    · have hf := (if_neg cn).symm.trans hf
      refine lv_aload_n hx hb dX10_lessen_30 rfl (lv_at hl 0 rfl) ?_
      refine lv_sipush (v := (224 : Int32)) hx hb dX10_lessen_31 (by decide) ?_
      refine lv_iconst (v := (2 : Int32)) hx hb dX10_lessen_34 (by decide) ?_
      refine lv_iload_n hx hb dX10_lessen_35 rfl (lv_at hl 1 rfl) ?_
      refine lv_imul hx hb dX10_lessen_36 ?_
      refine lv_iadd hx hb dX10_lessen_37 ?_
      refine lv_iconst (v := (1 : Int32)) hx hb dX10_lessen_38 (by decide) ?_
      refine lv_iadd hx hb dX10_lessen_39 ?_
      refine lv_iload_n hx hb dX10_lessen_40 rfl (lv_at hl 2 rfl) ?_
      refine pg_Vi (As := [.int (((224 : Int32) + ((2 : Int32) * x1)) + (1 : Int32)), .int x2]) C hH mi_X10_sets vl_X10_458 (q := (RX10, TX10, 34)) (ci := 10) rfl rfl hf (fun _ e1 => (oO_sp e1).1) (fun _ _ e1 => c_X10_sets e1) rfl rfl hl.1 (Nat.le_of_ble_eq_true rfl) ⟨Nat.le_of_ble_eq_true rfl, Nat.le_of_ble_eq_true rfl⟩ ⟨Nat.zero_le _, Nat.zero_le _⟩ dX10_lessen_41 (fun H locs v41 h41 hH hf => ?_)
      refine lv_goto (tgt := 48) hx hb dX10_lessen_44 (by decide) ?_
      exact pg_iret C hr hH hf dX10_lessen_48
set_option maxHeartbeats 4000000 in
set_option maxRecDepth 100000 in
theorem c_X10_undo {l : Launch} {g : GD} {h : PH} {a0 : Nat} {r : Int32} {h' : PH} (hf : mX10_undo h a0 = some (r, h')) : Met l yX10_undo (Cond.code yX10_undo cX10_undo 1 (some .int) :: TB) (rmD 1 0 0) (PcH g [.ref (gB g + a0)] h) (QcI g r h') 0 0 (aB g) := by
  refine Met.ofW (cc := cX10_undo) (maxL := 1) (ret := some .int) (by decide) rfl ?_
  intro p e s m args below meth c s₁ B hml hv
  obtain ⟨rfl, hH0, hkk0⟩ := hv
  have C : CT g RX10 cX10_undo 1 (Cond.code yX10_undo cX10_undo 1 (some .int) :: TB) p s m _ meth c := pg_ct (Tw := []) B hml hH0 hkk0
  have hr := B.returns
  have hH : HS g s s.heap [] h := ⟨hH0, va_S.rf⟩
  have hl := lv_entry ([.ref (gB g + a0)]) (n := 1) (Nat.le_of_ble_eq_true rfl)
  rw [lg_entry_eq]
  generalize (lg_sl ([.ref (gB g + a0)]) ++ List.replicate (1 - (lg_sl ([.ref (gB g + a0)])).length) Slot.unset).toArray = ls at hl ⊢
  have hl : lv_has ls 1 [(0, .ref (gB g + a0))] := hl
  show W p l e (rmD 1 0 0) _ _ _ _ _ _ _ _ _ _ _ _
  unfold mX10_undo at hf
  obtain ⟨hO, hf⟩ := oO_sp hf
  obtain ⟨⟨hx, hb, hml, hown, hts⟩, htb, hlk, hkk, hbs⟩ := id C
  refine lv_aload_n hx hb dX10_undo_0 rfl (lv_at hl 0 rfl) ?_
  refine lv_iconst (v := (0 : Int32)) hx hb dX10_undo_1 (by decide) ?_
  refine pg_pI C hH fl_X10_1 fm_10_0 hf dX10_undo_2 (fun H locs h2 hH hf => ?_)
  refine lv_aload_n hx hb dX10_undo_5 rfl (lv_at hl 0 rfl) ?_
  refine pg_gI C hH fl_X10_275 hf dX10_undo_6 (fun v6 hf => ?_)
  refine lv_if_ne (tgt := 14) hx hb dX10_undo_9 (by decide) (fun cn => ?_) (fun cn => ?_)
  · have hf := (if_neg cn).symm.trans hf
    refine lv_aload_n hx hb dX10_undo_14 rfl (lv_at hl 0 rfl) ?_
    refine lv_dup hx hb dX10_undo_15 rfl ?_
    refine pg_gI C hH fl_X10_275 hf dX10_undo_16 (fun v16 hf => ?_)
    refine lv_iconst (v := (1 : Int32)) hx hb dX10_undo_19 (by decide) ?_
    refine lv_isub hx hb dX10_undo_20 ?_
    refine pg_pI C hH fl_X10_275 fm_10_6 hf dX10_undo_21 (fun H locs h21 hH hf => ?_)
    refine lv_aload_n hx hb dX10_undo_24 rfl (lv_at hl 0 rfl) ?_
    refine pg_gR C hH fl_X10_20 hf dX10_undo_25 (fun v25 hf => ?_)
    refine lv_sipush (v := (232 : Int32)) hx hb dX10_undo_28 (by decide) ?_
    refine lv_aload_n hx hb dX10_undo_31 rfl (lv_at hl 0 rfl) ?_
    refine pg_gI C hH fl_X10_275 hf dX10_undo_32 (fun v32 hf => ?_)
    refine lv_imul hx hb dX10_undo_35 ?_
    refine lv_aload_n hx hb dX10_undo_36 rfl (lv_at hl 0 rfl) ?_
    refine pg_gR C hH fl_X10_13 hf dX10_undo_37 (fun v37 hf => ?_)
    refine lv_iconst (v := (0 : Int32)) hx hb dX10_undo_40 (by decide) ?_
    refine pg_Sv (As := [.ref (gB g + v25), .int ((232 : Int32) * v32), .ref (gB g + v37), .int (0 : Int32)]) C hH mi_X10_copies sl_X10_271 hf (fun _ e1 => c_X10_copies e1) rfl rfl hl.1 (Nat.le_of_ble_eq_true rfl) ⟨Nat.le_of_ble_eq_true rfl, Nat.le_of_ble_eq_true rfl⟩ ⟨Nat.zero_le _, Nat.zero_le _⟩ dX10_undo_41 (fun H locs h41 hH hf => ?_)
    refine lv_aload_n hx hb dX10_undo_44 rfl (lv_at hl 0 rfl) ?_
    refine pg_gI C hH fl_X10_275 hf dX10_undo_45 (fun v45 hf => ?_)
    exact pg_iret C hr hH hf dX10_undo_48
  · have hf := (if_pos cn).symm.trans hf
    refine lv_iconst (v := (-1 : Int32)) hx hb dX10_undo_12 (by decide) ?_
    exact pg_iret C hr hH hf dX10_undo_13
set_option maxHeartbeats 4000000 in
set_option maxRecDepth 100000 in
theorem wX10_keep_b30 {r : Int32} {h' : PH} (C : CT g RX10 cX10_keep 3 (Cond.code yX10_keep cX10_keep 3 (some .boolean) :: TB) p s m args meth c) (hr : meth.sig.returnType = some .boolean) {h : PH} {a0 : Nat} {x1 : Int32} {x2 : Int32} {H : Heap} {locs : List Loc} {ls : Array Slot} (hH : HS g s H locs h) (hf : mX10_keep_b30 h a0 x1 x2 = some (r, h')) (hl : lv_has ls 3 [(0, .ref (gB g + a0)), (1, .int x1), (2, .int x2)]) : W p l e (rmD 1 0 0) s m args below meth c H locs 0 0 (MQ below (QcI g r h') args s 0 0 (aB g)) (F0 m 30 ls []) := by
  obtain ⟨⟨hx, hb, hml, hown, hts⟩, htb, hlk, hkk, hbs⟩ := id C
  unfold mX10_keep_b30 at hf
  refine lv_iload_n hx hb dX10_keep_30 rfl (lv_at hl 2 rfl) ?_
  refine lv_if_eq (tgt := 59) hx hb dX10_keep_31 (by decide) (fun cn => ?_) (fun cn => ?_)
  · have hf := (if_pos cn).symm.trans hf
    refine lv_aload_n hx hb dX10_keep_59 rfl (lv_at hl 0 rfl) ?_
    refine pg_gR C hH fl_X10_13 hf dX10_keep_60 (fun v60 hf => ?_)
    refine lv_iconst (v := (0 : Int32)) hx hb dX10_keep_63 (by decide) ?_
    refine lv_aload_n hx hb dX10_keep_64 rfl (lv_at hl 0 rfl) ?_
    refine pg_gR C hH fl_X10_23 hf dX10_keep_65 (fun v65 hf => ?_)
    refine lv_sipush (v := (232 : Int32)) hx hb dX10_keep_68 (by decide) ?_
    refine lv_iload_n hx hb dX10_keep_71 rfl (lv_at hl 1 rfl) ?_
    refine lv_imul hx hb dX10_keep_72 ?_
    refine pg_Sv (As := [.ref (gB g + v60), .int (0 : Int32), .ref (gB g + v65), .int ((232 : Int32) * x1)]) C hH mi_X10_copies sl_X10_271 hf (fun _ e1 => c_X10_copies e1) rfl rfl hl.1 (Nat.le_of_ble_eq_true rfl) ⟨Nat.le_of_ble_eq_true rfl, Nat.le_of_ble_eq_true rfl⟩ ⟨Nat.zero_le _, Nat.zero_le _⟩ dX10_keep_73 (fun H locs h73 hH hf => ?_)
    refine lv_aload_n hx hb dX10_keep_76 rfl (lv_at hl 0 rfl) ?_
    refine pg_gR C hH fl_X10_26 hf dX10_keep_77 (fun v77 hf => ?_)
    refine lv_iload_n hx hb dX10_keep_80 rfl (lv_at hl 1 rfl) ?_
    refine lv_iconst (v := (1 : Int32)) hx hb dX10_keep_81 (by decide) ?_
    refine pg_sZ C hH hf dX10_keep_82 (fun H locs h82 hH hf => ?_)
    refine lv_iconst (v := (1 : Int32)) hx hb dX10_keep_83 (by decide) ?_
    exact pg_zret C hr hH hf dX10_keep_84
  · have hf := (if_neg cn).symm.trans hf
    refine lv_aload_n hx hb dX10_keep_34 rfl (lv_at hl 0 rfl) ?_
    refine pg_gR C hH fl_X10_23 hf dX10_keep_35 (fun v35 hf => ?_)
    refine lv_sipush (v := (232 : Int32)) hx hb dX10_keep_38 (by decide) ?_
    refine lv_iload_n hx hb dX10_keep_41 rfl (lv_at hl 1 rfl) ?_
    refine lv_imul hx hb dX10_keep_42 ?_
    refine lv_aload_n hx hb dX10_keep_43 rfl (lv_at hl 0 rfl) ?_
    refine pg_gR C hH fl_X10_13 hf dX10_keep_44 (fun v44 hf => ?_)
    refine lv_iconst (v := (0 : Int32)) hx hb dX10_keep_47 (by decide) ?_
    refine pg_Sv (As := [.ref (gB g + v35), .int ((232 : Int32) * x1), .ref (gB g + v44), .int (0 : Int32)]) C hH mi_X10_copies sl_X10_271 hf (fun _ e1 => c_X10_copies e1) rfl rfl hl.1 (Nat.le_of_ble_eq_true rfl) ⟨Nat.le_of_ble_eq_true rfl, Nat.le_of_ble_eq_true rfl⟩ ⟨Nat.zero_le _, Nat.zero_le _⟩ dX10_keep_48 (fun H locs h48 hH hf => ?_)
    refine lv_aload_n hx hb dX10_keep_51 rfl (lv_at hl 0 rfl) ?_
    refine lv_iconst (v := (0 : Int32)) hx hb dX10_keep_52 (by decide) ?_
    refine pg_pI C hH fl_X10_275 fm_10_6 hf dX10_keep_53 (fun H locs h53 hH hf => ?_)
    refine lv_goto (tgt := 83) hx hb dX10_keep_56 (by decide) ?_
    refine lv_iconst (v := (1 : Int32)) hx hb dX10_keep_83 (by decide) ?_
    exact pg_zret C hr hH hf dX10_keep_84
set_option maxHeartbeats 4000000 in
set_option maxRecDepth 100000 in
theorem c_X10_keep {l : Launch} {g : GD} {h : PH} {a0 : Nat} {x1 : Int32} {x2 : Int32} {r : Int32} {h' : PH} (hf : mX10_keep h a0 x1 x2 = some (r, h')) : Met l yX10_keep (Cond.code yX10_keep cX10_keep 3 (some .boolean) :: TB) (rmD 1 0 0) (PcH g [.ref (gB g + a0), .int x1, .int x2] h) (QcI g r h') 0 0 (aB g) := by
  refine Met.ofW (cc := cX10_keep) (maxL := 3) (ret := some .boolean) (by decide) rfl ?_
  intro p e s m args below meth c s₁ B hml hv
  obtain ⟨rfl, hH0, hkk0⟩ := hv
  have C : CT g RX10 cX10_keep 3 (Cond.code yX10_keep cX10_keep 3 (some .boolean) :: TB) p s m _ meth c := pg_ct (Tw := []) B hml hH0 hkk0
  have hr := B.returns
  have hH : HS g s s.heap [] h := ⟨hH0, va_S.rf⟩
  have hl := lv_entry ([.ref (gB g + a0), .int x1, .int x2]) (n := 3) (Nat.le_of_ble_eq_true rfl)
  rw [lg_entry_eq]
  generalize (lg_sl ([.ref (gB g + a0), .int x1, .int x2]) ++ List.replicate (3 - (lg_sl ([.ref (gB g + a0), .int x1, .int x2])).length) Slot.unset).toArray = ls at hl ⊢
  have hl : lv_has ls 3 [(0, .ref (gB g + a0)), (1, .int x1), (2, .int x2)] := hl
  show W p l e (rmD 1 0 0) _ _ _ _ _ _ _ _ _ _ _ _
  unfold mX10_keep at hf
  obtain ⟨hO, hf⟩ := oO_sp hf
  obtain ⟨⟨hx, hb, hml, hown, hts⟩, htb, hlk, hkk, hbs⟩ := id C
  refine lv_aload_n hx hb dX10_keep_0 rfl (lv_at hl 0 rfl) ?_
  refine lv_iconst (v := (0 : Int32)) hx hb dX10_keep_1 (by decide) ?_
  refine pg_pI C hH fl_X10_1 fm_10_0 hf dX10_keep_2 (fun H locs h2 hH hf => ?_)
  refine lv_iload_n hx hb dX10_keep_5 rfl (lv_at hl 1 rfl) ?_
  refine lv_i2l (v := (Int32.toInt64 x1)) hx hb dX10_keep_6 rfl ?_
  refine lv_lconst (v := (0 : Int64)) hx hb dX10_keep_7 (by decide) ?_
  refine lv_lconst (v := (1 : Int64)) hx hb dX10_keep_8 (by decide) ?_
  refine pg_Si (As := [.long (Int32.toInt64 x1), .long (0 : Int64), .long (1 : Int64)]) C hH mi_X10_within sl_X10_97 hf (fun _ _ e1 => c_X10_within e1) rfl rfl hl.1 (Nat.le_of_ble_eq_true rfl) ⟨Nat.le_of_ble_eq_true rfl, Nat.le_of_ble_eq_true rfl⟩ ⟨Nat.zero_le _, Nat.zero_le _⟩ dX10_keep_9 (fun H locs v9 h9 hH hf => ?_)
  refine lv_if_eq (tgt := 28) hx hb dX10_keep_12 (by decide) (fun cn => ?_) (fun cn => ?_)
  · have hf := (if_pos cn).symm.trans hf
    refine lv_iconst (v := (0 : Int32)) hx hb dX10_keep_28 (by decide) ?_
    exact pg_zret C hr hH hf dX10_keep_29
  · have hf := (if_neg cn).symm.trans hf
    refine lv_iload_n hx hb dX10_keep_15 rfl (lv_at hl 2 rfl) ?_
    refine lv_if_eq (tgt := 30) hx hb dX10_keep_16 (by decide) (fun cn => ?_) (fun cn => ?_)
    · have hf := (if_pos cn).symm.trans hf
      exact wX10_keep_b30 C hr hH hf (lv_sub hl [0, 1, 2] rfl)
    · have hf := (if_neg cn).symm.trans hf
      refine lv_aload_n hx hb dX10_keep_19 rfl (lv_at hl 0 rfl) ?_
      refine pg_gR C hH fl_X10_26 hf dX10_keep_20 (fun v20 hf => ?_)
      refine lv_iload_n hx hb dX10_keep_23 rfl (lv_at hl 1 rfl) ?_
      refine pg_aZ C hH hf dX10_keep_24 (fun v24 hf => ?_)
      refine lv_if_ne (tgt := 30) hx hb dX10_keep_25 (by decide) (fun cn => ?_) (fun cn => ?_)
      · have hf := (if_neg cn).symm.trans hf
        exact wX10_keep_b30 C hr hH hf (lv_sub hl [0, 1, 2] rfl)
      · have hf := (if_pos cn).symm.trans hf
        refine lv_iconst (v := (0 : Int32)) hx hb dX10_keep_28 (by decide) ?_
        exact pg_zret C hr hH hf dX10_keep_29
end WK7
