/-! ===== 22: walks (by program) ===== -/
section WK2
variable {p : Program} {l : Launch} {e : Env} {s : State} {m : MethodId} {args : Array Value} {below : List Frame} {meth : Method} {c : Code} {g : GD}
set_option maxHeartbeats 4000000 in
set_option maxRecDepth 100000 in
theorem wX4_checkStart_b10 {h' : PH} (C : CT g RX4 cX4_checkStart 2 (Cond.code yX4_checkStart cX4_checkStart 2 (none) :: TB) p s m args meth c) (hr : meth.sig.returnType = none) {h : PH} {a0 : Nat} {H : Heap} {locs : List Loc} {ls : Array Slot} (hH : HS g s H locs h) (hf : mX4_checkStart_b10 h a0 = some h') (hl : lv_has ls 2 [(0, .ref (gB g + a0))]) : W p l e (rmD 1 0 0) s m args below meth c H locs 0 0 (MQ below (QcV g h') args s 0 0 (aB g)) (F0 m 10 ls []) := by
  obtain ⟨⟨hx, hb, hml, hown, hts⟩, htb, hlk, hkk, hbs⟩ := id C
  unfold mX4_checkStart_b10 at hf
  refine lv_aload_n hx hb dX4_checkStart_10 rfl (lv_at hl 0 rfl) ?_
  refine lv_iconst (v := (1 : Int32)) hx hb dX4_checkStart_11 (by decide) ?_
  refine pg_Vv (As := [.int (1 : Int32)]) C hH mi_X4_fail vl_X4_69 (q := (RX4, TX4, 8)) (ci := 4) rfl rfl hf (fun _ e1 => (oO_sp e1).1) (fun _ e1 => c_X4_fail e1) rfl rfl hl.1 (Nat.le_of_ble_eq_true rfl) ⟨Nat.le_of_ble_eq_true rfl, Nat.le_of_ble_eq_true rfl⟩ ⟨Nat.zero_le _, Nat.zero_le _⟩ dX4_checkStart_12 (fun H locs h12 hH hf => ?_)
  refine lv_goto (tgt := 56) hx hb dX4_checkStart_15 (by decide) ?_
  exact pg_vret C hr hH hf dX4_checkStart_56
set_option maxHeartbeats 4000000 in
set_option maxRecDepth 100000 in
theorem wX4_checkStart_b43 {h' : PH} (C : CT g RX4 cX4_checkStart 2 (Cond.code yX4_checkStart cX4_checkStart 2 (none) :: TB) p s m args meth c) (hr : meth.sig.returnType = none) {h : PH} {a0 : Nat} {x1 : Int32} {H : Heap} {locs : List Loc} {ls : Array Slot} (hH : HS g s H locs h) (hf : mX4_checkStart_b43 h a0 x1 = some h') (hl : lv_has ls 2 [(0, .ref (gB g + a0)), (1, .int x1)]) : W p l e (rmD 1 0 0) s m args below meth c H locs 0 0 (MQ below (QcV g h') args s 0 0 (aB g)) (F0 m 43 ls []) := by
  obtain ⟨⟨hx, hb, hml, hown, hts⟩, htb, hlk, hkk, hbs⟩ := id C
  unfold mX4_checkStart_b43 at hf
  refine lv_aload_n hx hb dX4_checkStart_43 rfl (lv_at hl 0 rfl) ?_
  refine lv_iload_n hx hb dX4_checkStart_44 rfl (lv_at hl 1 rfl) ?_
  refine pg_Vi (As := [.int x1]) C hH mi_X4_isFull vl_X4_72 (q := (RX4, TX4, 8)) (ci := 4) rfl rfl hf (fun _ e1 => (oO_sp e1).1) (fun _ _ e1 => c_X4_isFull e1) rfl rfl hl.1 (Nat.le_of_ble_eq_true rfl) ⟨Nat.le_of_ble_eq_true rfl, Nat.le_of_ble_eq_true rfl⟩ ⟨Nat.zero_le _, Nat.zero_le _⟩ dX4_checkStart_45 (fun H locs v45 h45 hH hf => ?_)
  refine lv_if_eq (tgt := 56) hx hb dX4_checkStart_48 (by decide) (fun cn => ?_) (fun cn => ?_)
  · have hf := (if_pos cn).symm.trans hf
    exact pg_vret C hr hH hf dX4_checkStart_56
  · have hf := (if_neg cn).symm.trans hf
    refine lv_aload_n hx hb dX4_checkStart_51 rfl (lv_at hl 0 rfl) ?_
    refine lv_iconst (v := (5 : Int32)) hx hb dX4_checkStart_52 (by decide) ?_
    refine pg_Vv (As := [.int (5 : Int32)]) C hH mi_X4_fail vl_X4_69 (q := (RX4, TX4, 8)) (ci := 4) rfl rfl hf (fun _ e1 => (oO_sp e1).1) (fun _ e1 => c_X4_fail e1) rfl rfl hl.1 (Nat.le_of_ble_eq_true rfl) ⟨Nat.le_of_ble_eq_true rfl, Nat.le_of_ble_eq_true rfl⟩ ⟨Nat.zero_le _, Nat.zero_le _⟩ dX4_checkStart_53 (fun H locs h53 hH hf => ?_)
    exact pg_vret C hr hH hf dX4_checkStart_56
set_option maxHeartbeats 4000000 in
set_option maxRecDepth 100000 in
theorem c_X4_checkStart {l : Launch} {g : GD} {h : PH} {a0 : Nat} {x1 : Int32} {h' : PH} (hf : mX4_checkStart h a0 x1 = some h') : Met l yX4_checkStart (Cond.code yX4_checkStart cX4_checkStart 2 (none) :: TB) (rmD 1 0 0) (PcH g [.ref (gB g + a0), .int x1] h) (QcV g h') 0 0 (aB g) := by
  refine Met.ofW (cc := cX4_checkStart) (maxL := 2) (ret := none) (by decide) rfl ?_
  intro p e s m args below meth c s₁ B hml hv
  obtain ⟨rfl, hH0, hkk0⟩ := hv
  have C : CT g RX4 cX4_checkStart 2 (Cond.code yX4_checkStart cX4_checkStart 2 (none) :: TB) p s m _ meth c := pg_ct (Tw := []) B hml hH0 hkk0
  have hr := B.returns
  have hH : HS g s s.heap [] h := ⟨hH0, va_S.rf⟩
  have hl := lv_entry ([.ref (gB g + a0), .int x1]) (n := 2) (Nat.le_of_ble_eq_true rfl)
  rw [lg_entry_eq]
  generalize (lg_sl ([.ref (gB g + a0), .int x1]) ++ List.replicate (2 - (lg_sl ([.ref (gB g + a0), .int x1])).length) Slot.unset).toArray = ls at hl ⊢
  have hl : lv_has ls 2 [(0, .ref (gB g + a0)), (1, .int x1)] := hl
  show W p l e (rmD 1 0 0) _ _ _ _ _ _ _ _ _ _ _ _
  unfold mX4_checkStart at hf
  obtain ⟨hO, hf⟩ := oO_sp hf
  obtain ⟨⟨hx, hb, hml, hown, hts⟩, htb, hlk, hkk, hbs⟩ := id C
  refine lv_iload_n hx hb dX4_checkStart_0 rfl (lv_at hl 1 rfl) ?_
  refine lv_if_lt (tgt := 10) hx hb dX4_checkStart_1 (by decide) (fun cn => ?_) (fun cn => ?_)
  · have hf := (if_pos cn).symm.trans hf
    exact wX4_checkStart_b10 C hr hH hf (lv_sub hl [0] rfl)
  · have hf := (if_neg cn).symm.trans hf
    refine lv_iload_n hx hb dX4_checkStart_4 rfl (lv_at hl 1 rfl) ?_
    refine lv_bipush (v := (11 : Int32)) hx hb dX4_checkStart_5 (by decide) ?_
    refine lv_icmp_le (tgt := 18) hx hb dX4_checkStart_7 (by decide) (fun cn => ?_) (fun cn => ?_)
    · have hf := (if_pos cn).symm.trans hf
      refine lv_iload_n hx hb dX4_checkStart_18 rfl (lv_at hl 1 rfl) ?_
      refine lv_bipush (v := (8 : Int32)) hx hb dX4_checkStart_19 (by decide) ?_
      refine lv_icmp_lt (tgt := 43) hx hb dX4_checkStart_21 (by decide) (fun cn => ?_) (fun cn => ?_)
      · have hf := (if_pos cn).symm.trans hf
        exact wX4_checkStart_b43 C hr hH hf (lv_sub hl [0, 1] rfl)
      · have hf := (if_neg cn).symm.trans hf
        refine lv_aload_n hx hb dX4_checkStart_24 rfl (lv_at hl 0 rfl) ?_
        refine pg_gI C hH fl_X4_44 hf dX4_checkStart_25 (fun v25 hf => ?_)
        refine lv_iload_n hx hb dX4_checkStart_28 rfl (lv_at hl 1 rfl) ?_
        refine lv_ishr hx hb dX4_checkStart_29 ?_
        refine lv_iconst (v := (1 : Int32)) hx hb dX4_checkStart_30 (by decide) ?_
        refine lv_iand hx hb dX4_checkStart_31 ?_
        refine lv_if_eq (tgt := 43) hx hb dX4_checkStart_32 (by decide) (fun cn => ?_) (fun cn => ?_)
        · have hf := (if_pos cn).symm.trans hf
          exact wX4_checkStart_b43 C hr hH hf (lv_sub hl [0, 1] rfl)
        · have hf := (if_neg cn).symm.trans hf
          refine lv_aload_n hx hb dX4_checkStart_35 rfl (lv_at hl 0 rfl) ?_
          refine lv_iconst (v := (2 : Int32)) hx hb dX4_checkStart_36 (by decide) ?_
          refine pg_Vv (As := [.int (2 : Int32)]) C hH mi_X4_fail vl_X4_69 (q := (RX4, TX4, 8)) (ci := 4) rfl rfl hf (fun _ e1 => (oO_sp e1).1) (fun _ e1 => c_X4_fail e1) rfl rfl hl.1 (Nat.le_of_ble_eq_true rfl) ⟨Nat.le_of_ble_eq_true rfl, Nat.le_of_ble_eq_true rfl⟩ ⟨Nat.zero_le _, Nat.zero_le _⟩ dX4_checkStart_37 (fun H locs h37 hH hf => ?_)
          refine lv_goto (tgt := 56) hx hb dX4_checkStart_40 (by decide) ?_
          exact pg_vret C hr hH hf dX4_checkStart_56
    · have hf := (if_neg cn).symm.trans hf
      exact wX4_checkStart_b10 C hr hH hf (lv_sub hl [0] rfl)
set_option maxHeartbeats 4000000 in
set_option maxRecDepth 100000 in
theorem c_X7_isName {l : Launch} {g : GD} {h : PH} {a0 : Nat} {r : Int32} {h' : PH} (hf : mX7_isName h a0 = some (r, h')) : Met l yX7_isName (Cond.code yX7_isName cX7_isName 1 (some .boolean) :: TB) (rmD 0 0 0) (PcH g [.ref (gB g + a0)] h) (QcI g r h') 0 0 (aB g) := by
  refine Met.ofW (cc := cX7_isName) (maxL := 1) (ret := some .boolean) (by decide) rfl ?_
  intro p e s m args below meth c s₁ B hml hv
  obtain ⟨rfl, hH0, hkk0⟩ := hv
  have C : CT g RX7 cX7_isName 1 (Cond.code yX7_isName cX7_isName 1 (some .boolean) :: TB) p s m _ meth c := pg_ct (Tw := []) B hml hH0 hkk0
  have hr := B.returns
  have hH : HS g s s.heap [] h := ⟨hH0, va_S.rf⟩
  have hl := lv_entry ([.ref (gB g + a0)]) (n := 1) (Nat.le_of_ble_eq_true rfl)
  rw [lg_entry_eq]
  generalize (lg_sl ([.ref (gB g + a0)]) ++ List.replicate (1 - (lg_sl ([.ref (gB g + a0)])).length) Slot.unset).toArray = ls at hl ⊢
  have hl : lv_has ls 1 [(0, .ref (gB g + a0))] := hl
  show W p l e (rmD 0 0 0) _ _ _ _ _ _ _ _ _ _ _ _
  unfold mX7_isName at hf
  obtain ⟨hO, hf⟩ := oO_sp hf
  obtain ⟨⟨hx, hb, hml, hown, hts⟩, htb, hlk, hkk, hbs⟩ := id C
  refine lv_aload_n hx hb dX7_isName_0 rfl (lv_at hl 0 rfl) ?_
  refine pg_gI C hH fl_X7_67 hf dX7_isName_1 (fun v1 hf => ?_)
  refine lv_iconst (v := (1 : Int32)) hx hb dX7_isName_4 (by decide) ?_
  refine lv_icmp_ne (tgt := 20) hx hb dX7_isName_5 (by decide) (fun cn => ?_) (fun cn => ?_)
  · have hf := (if_neg cn).symm.trans hf
    refine lv_iconst (v := (0 : Int32)) hx hb dX7_isName_20 (by decide) ?_
    exact pg_zret C hr hH hf dX7_isName_21
  · have hf := (if_pos cn).symm.trans hf
    refine lv_aload_n hx hb dX7_isName_8 rfl (lv_at hl 0 rfl) ?_
    refine pg_gI C hH fl_X7_60 hf dX7_isName_9 (fun v9 hf => ?_)
    refine lv_iconst (v := (-1 : Int32)) hx hb dX7_isName_12 (by decide) ?_
    refine lv_icmp_ne (tgt := 20) hx hb dX7_isName_13 (by decide) (fun cn => ?_) (fun cn => ?_)
    · have hf := (if_neg cn).symm.trans hf
      refine lv_iconst (v := (0 : Int32)) hx hb dX7_isName_20 (by decide) ?_
      exact pg_zret C hr hH hf dX7_isName_21
    · have hf := (if_pos cn).symm.trans hf
      refine lv_iconst (v := (1 : Int32)) hx hb dX7_isName_16 (by decide) ?_
      refine lv_goto (tgt := 21) hx hb dX7_isName_17 (by decide) ?_
      exact pg_zret C hr hH hf dX7_isName_21
set_option maxHeartbeats 4000000 in
set_option maxRecDepth 100000 in
theorem wX4_find_b2 {r2 : PH → Nat → Int64 → Int32 → Option (Int32 × PH)} {r : Int32} {h' : PH} (C : CT g RX4 cX4_find 4 (Cond.code yX4_find cX4_find 4 (some .int) :: TB) p s m args meth c) (hr : meth.sig.returnType = some .int) (k2 : ∀ {h : PH} {a0 : Nat} {x1 : Int64} {x3 : Int32} {H : Heap} {locs : List Loc} {ls : Array Slot}, HS g s H locs h → r2 h a0 x1 x3 = some (r, h') → lv_has ls 4 [(0, .ref (gB g + a0)), (1, .long x1), (3, .int x3)] → W p l e (rmD 0 0 0) s m args below meth c H locs 0 0 (MQ below (QcI g r h') args s 0 0 (aB g)) (F0 m 2 ls [])) {h : PH} {a0 : Nat} {x1 : Int64} {x3 : Int32} {H : Heap} {locs : List Loc} {ls : Array Slot} (hH : HS g s H locs h) (hf : mX4_find_b2 r2 h a0 x1 x3 = some (r, h')) (hl : lv_has ls 4 [(0, .ref (gB g + a0)), (1, .long x1), (3, .int x3)]) : W p l e (rmD 0 0 0) s m args below meth c H locs 0 0 (MQ below (QcI g r h') args s 0 0 (aB g)) (F0 m 2 ls []) := by
  obtain ⟨⟨hx, hb, hml, hown, hts⟩, htb, hlk, hkk, hbs⟩ := id C
  unfold mX4_find_b2 at hf
  refine lv_iload_n hx hb dX4_find_2 rfl (lv_at hl 2 rfl) ?_
  refine lv_aload_n hx hb dX4_find_3 rfl (lv_at hl 0 rfl) ?_
  refine pg_gI C hH fl_X4_40 hf dX4_find_4 (fun v4 hf => ?_)
  refine lv_icmp_ge (tgt := 29) hx hb dX4_find_7 (by decide) (fun cn => ?_) (fun cn => ?_)
  · have hf := (if_pos cn).symm.trans hf
    refine lv_iconst (v := (-1 : Int32)) hx hb dX4_find_29 (by decide) ?_
    exact pg_iret C hr hH hf dX4_find_30
  · have hf := (if_neg cn).symm.trans hf
    refine lv_aload_n hx hb dX4_find_10 rfl (lv_at hl 0 rfl) ?_
    refine pg_gR C hH fl_X4_9 hf dX4_find_11 (fun v11 hf => ?_)
    refine lv_iload_n hx hb dX4_find_14 rfl (lv_at hl 2 rfl) ?_
    refine pg_aL C hH hf dX4_find_15 (fun v15 hf => ?_)
    refine lv_lload_n hx hb dX4_find_16 rfl (lv_at hl 1 rfl) ?_
    refine W.lcmp hx hb dX4_find_17 ?_
    refine lv_if_ne (tgt := 23) hx hb dX4_find_18 (by decide) (fun cn => ?_) (fun cn => ?_)
    · have hf := (if_neg (fun z => cn ((lg_cmp_eq _ _).mpr z))).symm.trans hf
      refine lv_iinc (v := (x3 + 1)) (lv' := [(3, .int (x3 + 1)), (0, .ref (gB g + a0)), (1, .long x1)]) hx hb dX4_find_23 hl (k := 2) rfl rfl (by decide) rfl (fun ls hl => ?_)
      refine lv_goto (tgt := 2) hx hb dX4_find_26 (by decide) ?_
      exact k2 hH hf (lv_sub hl [1, 2, 0] rfl)
    · have hf := (if_pos ((lg_cmp_eq _ _).mp cn)).symm.trans hf
      refine lv_iload_n hx hb dX4_find_21 rfl (lv_at hl 2 rfl) ?_
      exact pg_iret C hr hH hf dX4_find_22
set_option maxHeartbeats 4000000 in
set_option maxRecDepth 100000 in
theorem wX4_find_L2 {r : Int32} {h' : PH} (C : CT g RX4 cX4_find 4 (Cond.code yX4_find cX4_find 4 (some .int) :: TB) p s m args meth c) (hr : meth.sig.returnType = some .int) : ∀ (n : Nat) {h : PH} {a0 : Nat} {x1 : Int64} {x3 : Int32} {H : Heap} {locs : List Loc} {ls : Array Slot}, HS g s H locs h → mX4_find_L2 n h a0 x1 x3 = some (r, h') → lv_has ls 4 [(0, .ref (gB g + a0)), (1, .long x1), (3, .int x3)] → W p l e (rmD 0 0 0) s m args below meth c H locs 0 0 (MQ below (QcI g r h') args s 0 0 (aB g)) (F0 m 2 ls []) := by
  intro n
  induction n with
  | zero =>
    intro h a0 x1 x3 H locs ls hH hf hl
    exact absurd hf (by intro z; cases z)
  | succ n ih =>
    intro h a0 x1 x3 H locs ls hH hf hl
    have hf : mX4_find_b2 (mX4_find_L2 n) h a0 x1 x3 = some (r, h') := hf
    exact wX4_find_b2 C hr (fun a b c => ih a b c) hH hf hl
set_option maxHeartbeats 4000000 in
set_option maxRecDepth 100000 in
theorem c_X4_find {l : Launch} {g : GD} {h : PH} {a0 : Nat} {x1 : Int64} {r : Int32} {h' : PH} (hf : mX4_find h a0 x1 = some (r, h')) : Met l yX4_find (Cond.code yX4_find cX4_find 4 (some .int) :: TB) (rmD 0 0 0) (PcH g [.ref (gB g + a0), .long x1] h) (QcI g r h') 0 0 (aB g) := by
  refine Met.ofW (cc := cX4_find) (maxL := 4) (ret := some .int) (by decide) rfl ?_
  intro p e s m args below meth c s₁ B hml hv
  obtain ⟨rfl, hH0, hkk0⟩ := hv
  have C : CT g RX4 cX4_find 4 (Cond.code yX4_find cX4_find 4 (some .int) :: TB) p s m _ meth c := pg_ct (Tw := []) B hml hH0 hkk0
  have hr := B.returns
  have hH : HS g s s.heap [] h := ⟨hH0, va_S.rf⟩
  have hl := lv_entry ([.ref (gB g + a0), .long x1]) (n := 4) (Nat.le_of_ble_eq_true rfl)
  rw [lg_entry_eq]
  generalize (lg_sl ([.ref (gB g + a0), .long x1]) ++ List.replicate (4 - (lg_sl ([.ref (gB g + a0), .long x1])).length) Slot.unset).toArray = ls at hl ⊢
  have hl : lv_has ls 4 [(0, .ref (gB g + a0)), (1, .long x1)] := hl
  show W p l e (rmD 0 0 0) _ _ _ _ _ _ _ _ _ _ _ _
  unfold mX4_find at hf
  obtain ⟨hO, hf⟩ := oO_sp hf
  obtain ⟨⟨hx, hb, hml, hown, hts⟩, htb, hlk, hkk, hbs⟩ := id C
  refine lv_iconst (v := (0 : Int32)) hx hb dX4_find_0 (by decide) ?_
  refine lv_istore_n (lv' := [(3, .int (0 : Int32)), (0, .ref (gB g + a0)), (1, .long x1)]) hx hb dX4_find_1 rfl hl (by decide) rfl (fun ls hl => ?_)
  exact wX4_find_L2 C hr FU hH hf (lv_sub hl [1, 2, 0] rfl)
set_option maxHeartbeats 4000000 in
set_option maxRecDepth 100000 in
theorem c_X4_giveName {l : Launch} {g : GD} {h : PH} {a0 : Nat} {x1 : Int32} {h' : PH} (hf : mX4_giveName h a0 x1 = some h') : Met l yX4_giveName (Cond.code yX4_giveName cX4_giveName 2 (none) :: TB) (rmD 3 0 0) (PcH g [.ref (gB g + a0), .int x1] h) (QcV g h') 0 0 (aB g) := by
  refine Met.ofW (cc := cX4_giveName) (maxL := 2) (ret := none) (by decide) rfl ?_
  intro p e s m args below meth c s₁ B hml hv
  obtain ⟨rfl, hH0, hkk0⟩ := hv
  have C : CT g RX4 cX4_giveName 2 (Cond.code yX4_giveName cX4_giveName 2 (none) :: TB) p s m _ meth c := pg_ct (Tw := []) B hml hH0 hkk0
  have hr := B.returns
  have hH : HS g s s.heap [] h := ⟨hH0, va_S.rf⟩
  have hl := lv_entry ([.ref (gB g + a0), .int x1]) (n := 2) (Nat.le_of_ble_eq_true rfl)
  rw [lg_entry_eq]
  generalize (lg_sl ([.ref (gB g + a0), .int x1]) ++ List.replicate (2 - (lg_sl ([.ref (gB g + a0), .int x1])).length) Slot.unset).toArray = ls at hl ⊢
  have hl : lv_has ls 2 [(0, .ref (gB g + a0)), (1, .int x1)] := hl
  show W p l e (rmD 3 0 0) _ _ _ _ _ _ _ _ _ _ _ _
  unfold mX4_giveName at hf
  obtain ⟨hO, hf⟩ := oO_sp hf
  obtain ⟨⟨hx, hb, hml, hown, hts⟩, htb, hlk, hkk, hbs⟩ := id C
  refine lv_aload_n hx hb dX4_giveName_0 rfl (lv_at hl 0 rfl) ?_
  refine pg_gR C hH fl_X4_27 hf dX4_giveName_1 (fun v1 hf => ?_)
  refine pg_Vv (As := []) C hH mi_X7_next vl_X4_54 (q := (RX7, TX7, 8)) (ci := 7) rfl rfl hf (fun _ e1 => (oO_sp e1).1) (fun _ e1 => c_X7_next e1) rfl rfl hl.1 (Nat.le_of_ble_eq_true rfl) ⟨Nat.le_of_ble_eq_true rfl, Nat.le_of_ble_eq_true rfl⟩ ⟨Nat.zero_le _, Nat.zero_le _⟩ dX4_giveName_4 (fun H locs h4 hH hf => ?_)
  refine lv_aload_n hx hb dX4_giveName_7 rfl (lv_at hl 0 rfl) ?_
  refine pg_gR C hH fl_X4_27 hf dX4_giveName_8 (fun v8 hf => ?_)
  refine pg_Vi (As := []) C hH mi_X7_isName vl_X4_170 (q := (RX7, TX7, 8)) (ci := 7) rfl rfl hf (fun _ e1 => (oO_sp e1).1) (fun _ _ e1 => c_X7_isName e1) rfl rfl hl.1 (Nat.le_of_ble_eq_true rfl) ⟨Nat.le_of_ble_eq_true rfl, Nat.le_of_ble_eq_true rfl⟩ ⟨Nat.zero_le _, Nat.zero_le _⟩ dX4_giveName_11 (fun H locs v11 h11 hH hf => ?_)
  refine lv_if_ne (tgt := 25) hx hb dX4_giveName_14 (by decide) (fun cn => ?_) (fun cn => ?_)
  · have hf := (if_neg cn).symm.trans hf
    refine lv_aload_n hx hb dX4_giveName_25 rfl (lv_at hl 0 rfl) ?_
    refine lv_aload_n hx hb dX4_giveName_26 rfl (lv_at hl 0 rfl) ?_
    refine pg_gR C hH fl_X4_27 hf dX4_giveName_27 (fun v27 hf => ?_)
    refine pg_gL C hH fl_X4_151 hf dX4_giveName_30 (fun v30 hf => ?_)
    refine pg_Vi (As := [.long v30]) C hH mi_X4_find vl_X4_174 (q := (RX4, TX4, 8)) (ci := 4) rfl rfl hf (fun _ e1 => (oO_sp e1).1) (fun _ _ e1 => c_X4_find e1) rfl rfl hl.1 (Nat.le_of_ble_eq_true rfl) ⟨Nat.le_of_ble_eq_true rfl, Nat.le_of_ble_eq_true rfl⟩ ⟨Nat.zero_le _, Nat.zero_le _⟩ dX4_giveName_33 (fun H locs v33 h33 hH hf => ?_)
    refine lv_iconst (v := (-1 : Int32)) hx hb dX4_giveName_36 (by decide) ?_
    refine lv_icmp_eq (tgt := 48) hx hb dX4_giveName_37 (by decide) (fun cn => ?_) (fun cn => ?_)
    · have hf := (if_pos cn).symm.trans hf
      refine lv_aload_n hx hb dX4_giveName_48 rfl (lv_at hl 0 rfl) ?_
      refine pg_gI C hH fl_X4_40 hf dX4_giveName_49 (fun v49 hf => ?_)
      refine lv_bipush (v := (26 : Int32)) hx hb dX4_giveName_52 (by decide) ?_
      refine lv_icmp_ge (tgt := 111) hx hb dX4_giveName_54 (by decide) (fun cn => ?_) (fun cn => ?_)
      · have hf := (if_pos cn).symm.trans hf
        exact pg_vret C hr hH hf dX4_giveName_111
      · have hf := (if_neg cn).symm.trans hf
        refine lv_aload_n hx hb dX4_giveName_57 rfl (lv_at hl 0 rfl) ?_
        refine pg_gR C hH fl_X4_9 hf dX4_giveName_58 (fun v58 hf => ?_)
        refine lv_aload_n hx hb dX4_giveName_61 rfl (lv_at hl 0 rfl) ?_
        refine pg_gI C hH fl_X4_40 hf dX4_giveName_62 (fun v62 hf => ?_)
        refine lv_aload_n hx hb dX4_giveName_65 rfl (lv_at hl 0 rfl) ?_
        refine pg_gR C hH fl_X4_27 hf dX4_giveName_66 (fun v66 hf => ?_)
        refine pg_gL C hH fl_X4_151 hf dX4_giveName_69 (fun v69 hf => ?_)
        refine pg_sL C hH hf dX4_giveName_72 (fun H locs h72 hH hf => ?_)
        refine lv_aload_n hx hb dX4_giveName_73 rfl (lv_at hl 0 rfl) ?_
        refine pg_gR C hH fl_X4_15 hf dX4_giveName_74 (fun v74 hf => ?_)
        refine lv_aload_n hx hb dX4_giveName_77 rfl (lv_at hl 0 rfl) ?_
        refine pg_gI C hH fl_X4_40 hf dX4_giveName_78 (fun v78 hf => ?_)
        refine lv_iload_n hx hb dX4_giveName_81 rfl (lv_at hl 1 rfl) ?_
        refine pg_sI C hH hf dX4_giveName_82 (fun H locs h82 hH hf => ?_)
        refine lv_aload_n hx hb dX4_giveName_83 rfl (lv_at hl 0 rfl) ?_
        refine pg_gR C hH fl_X4_19 hf dX4_giveName_84 (fun v84 hf => ?_)
        refine lv_aload_n hx hb dX4_giveName_87 rfl (lv_at hl 0 rfl) ?_
        refine pg_gI C hH fl_X4_40 hf dX4_giveName_88 (fun v88 hf => ?_)
        refine lv_aload_n hx hb dX4_giveName_91 rfl (lv_at hl 0 rfl) ?_
        refine pg_gR C hH fl_X4_31 hf dX4_giveName_92 (fun v92 hf => ?_)
        refine pg_gR C hH fl_X4_76 hf dX4_giveName_95 (fun v95 hf => ?_)
        refine lv_iload_n hx hb dX4_giveName_98 rfl (lv_at hl 1 rfl) ?_
        refine pg_aI C hH hf dX4_giveName_99 (fun v99 hf => ?_)
        refine pg_sI C hH hf dX4_giveName_100 (fun H locs h100 hH hf => ?_)
        refine lv_aload_n hx hb dX4_giveName_101 rfl (lv_at hl 0 rfl) ?_
        refine lv_dup hx hb dX4_giveName_102 rfl ?_
        refine pg_gI C hH fl_X4_40 hf dX4_giveName_103 (fun v103 hf => ?_)
        refine lv_iconst (v := (1 : Int32)) hx hb dX4_giveName_106 (by decide) ?_
        refine lv_iadd hx hb dX4_giveName_107 ?_
        refine pg_pI C hH fl_X4_40 fm_4_5 hf dX4_giveName_108 (fun H locs h108 hH hf => ?_)
        exact pg_vret C hr hH hf dX4_giveName_111
    · have hf := (if_neg cn).symm.trans hf
      refine lv_aload_n hx hb dX4_giveName_40 rfl (lv_at hl 0 rfl) ?_
      refine lv_iconst (v := (2 : Int32)) hx hb dX4_giveName_41 (by decide) ?_
      refine pg_Vv (As := [.int (2 : Int32)]) C hH mi_X4_fail vl_X4_69 (q := (RX4, TX4, 8)) (ci := 4) rfl rfl hf (fun _ e1 => (oO_sp e1).1) (fun _ e1 => c_X4_fail e1) rfl rfl hl.1 (Nat.le_of_ble_eq_true rfl) ⟨Nat.le_of_ble_eq_true rfl, Nat.le_of_ble_eq_true rfl⟩ ⟨Nat.zero_le _, Nat.zero_le _⟩ dX4_giveName_42 (fun H locs h42 hH hf => ?_)
      refine lv_goto (tgt := 111) hx hb dX4_giveName_45 (by decide) ?_
      exact pg_vret C hr hH hf dX4_giveName_111
  · have hf := (if_pos cn).symm.trans hf
    refine lv_aload_n hx hb dX4_giveName_17 rfl (lv_at hl 0 rfl) ?_
    refine lv_iconst (v := (1 : Int32)) hx hb dX4_giveName_18 (by decide) ?_
    refine pg_Vv (As := [.int (1 : Int32)]) C hH mi_X4_fail vl_X4_69 (q := (RX4, TX4, 8)) (ci := 4) rfl rfl hf (fun _ e1 => (oO_sp e1).1) (fun _ e1 => c_X4_fail e1) rfl rfl hl.1 (Nat.le_of_ble_eq_true rfl) ⟨Nat.le_of_ble_eq_true rfl, Nat.le_of_ble_eq_true rfl⟩ ⟨Nat.zero_le _, Nat.zero_le _⟩ dX4_giveName_19 (fun H locs h19 hH hf => ?_)
    refine lv_goto (tgt := 111) hx hb dX4_giveName_22 (by decide) ?_
    exact pg_vret C hr hH hf dX4_giveName_111
set_option maxHeartbeats 4000000 in
set_option maxRecDepth 100000 in
theorem c_X4_readParty {l : Launch} {g : GD} {h : PH} {a0 : Nat} {h' : PH} (hf : mX4_readParty h a0 = some h') : Met l yX4_readParty (Cond.code yX4_readParty cX4_readParty 1 (none) :: TB) (rmD 4 0 0) (PcH g [.ref (gB g + a0)] h) (QcV g h') 0 0 (aB g) := by
  refine Met.ofW (cc := cX4_readParty) (maxL := 1) (ret := none) (by decide) rfl ?_
  intro p e s m args below meth c s₁ B hml hv
  obtain ⟨rfl, hH0, hkk0⟩ := hv
  have C : CT g RX4 cX4_readParty 1 (Cond.code yX4_readParty cX4_readParty 1 (none) :: TB) p s m _ meth c := pg_ct (Tw := []) B hml hH0 hkk0
  have hr := B.returns
  have hH : HS g s s.heap [] h := ⟨hH0, va_S.rf⟩
  have hl := lv_entry ([.ref (gB g + a0)]) (n := 1) (Nat.le_of_ble_eq_true rfl)
  rw [lg_entry_eq]
  generalize (lg_sl ([.ref (gB g + a0)]) ++ List.replicate (1 - (lg_sl ([.ref (gB g + a0)])).length) Slot.unset).toArray = ls at hl ⊢
  have hl : lv_has ls 1 [(0, .ref (gB g + a0))] := hl
  show W p l e (rmD 4 0 0) _ _ _ _ _ _ _ _ _ _ _ _
  unfold mX4_readParty at hf
  obtain ⟨hO, hf⟩ := oO_sp hf
  obtain ⟨⟨hx, hb, hml, hown, hts⟩, htb, hlk, hkk, hbs⟩ := id C
  refine lv_aload_n hx hb dX4_readParty_0 rfl (lv_at hl 0 rfl) ?_
  refine lv_iconst (v := (0 : Int32)) hx hb dX4_readParty_1 (by decide) ?_
  refine pg_Vv (As := [.int (0 : Int32)]) C hH mi_X4_giveName vl_X4_114 (q := (RX4, TX4, 8)) (ci := 4) rfl rfl hf (fun _ e1 => (oO_sp e1).1) (fun _ e1 => c_X4_giveName e1) rfl rfl hl.1 (Nat.le_of_ble_eq_true rfl) ⟨Nat.le_of_ble_eq_true rfl, Nat.le_of_ble_eq_true rfl⟩ ⟨Nat.zero_le _, Nat.zero_le _⟩ dX4_readParty_2 (fun H locs h2 hH hf => ?_)
  refine lv_aload_n hx hb dX4_readParty_5 rfl (lv_at hl 0 rfl) ?_
  refine pg_gR C hH fl_X4_31 hf dX4_readParty_6 (fun v6 hf => ?_)
  refine pg_gR C hH fl_X4_76 hf dX4_readParty_9 (fun v9 hf => ?_)
  refine lv_iconst (v := (0 : Int32)) hx hb dX4_readParty_12 (by decide) ?_
  refine lv_dup2_11 hx hb dX4_readParty_13 rfl rfl ?_
  refine pg_aI C hH hf dX4_readParty_14 (fun v14 hf => ?_)
  refine lv_iconst (v := (1 : Int32)) hx hb dX4_readParty_15 (by decide) ?_
  refine lv_iadd hx hb dX4_readParty_16 ?_
  refine pg_sI C hH hf dX4_readParty_17 (fun H locs h17 hH hf => ?_)
  exact pg_vret C hr hH hf dX4_readParty_18
set_option maxHeartbeats 4000000 in
set_option maxRecDepth 100000 in
theorem wX4_toldOf_b57 {r : Int32} {h' : PH} (C : CT g RX4 cX4_toldOf 3 (Cond.code yX4_toldOf cX4_toldOf 3 (some .int) :: TB) p s m args meth c) (hr : meth.sig.returnType = some .int) {h : PH} {a0 : Nat} {x2 : Int32} {H : Heap} {locs : List Loc} {ls : Array Slot} (hH : HS g s H locs h) (hf : mX4_toldOf_b57 h a0 x2 = some (r, h')) (hl : lv_has ls 3 [(0, .ref (gB g + a0)), (2, .int x2)]) : W p l e (rmD 3 0 0) s m args below meth c H locs 0 0 (MQ below (QcI g r h') args s 0 0 (aB g)) (F0 m 57 ls []) := by
  obtain ⟨⟨hx, hb, hml, hown, hts⟩, htb, hlk, hkk, hbs⟩ := id C
  unfold mX4_toldOf_b57 at hf
  refine lv_aload_n hx hb dX4_toldOf_57 rfl (lv_at hl 0 rfl) ?_
  refine pg_gI C hH fl_X4_47 hf dX4_toldOf_58 (fun v58 hf => ?_)
  refine lv_if_ne (tgt := 78) hx hb dX4_toldOf_61 (by decide) (fun cn => ?_) (fun cn => ?_)
  · have hf := (if_neg cn).symm.trans hf
    refine lv_iconst (v := (0 : Int32)) hx hb dX4_toldOf_78 (by decide) ?_
    exact pg_iret C hr hH hf dX4_toldOf_79
  · have hf := (if_pos cn).symm.trans hf
    refine lv_iload_n hx hb dX4_toldOf_64 rfl (lv_at hl 1 rfl) ?_
    refine lv_iconst (v := (-1 : Int32)) hx hb dX4_toldOf_65 (by decide) ?_
    refine lv_icmp_eq (tgt := 78) hx hb dX4_toldOf_66 (by decide) (fun cn => ?_) (fun cn => ?_)
    · have hf := (if_pos cn).symm.trans hf
      refine lv_iconst (v := (0 : Int32)) hx hb dX4_toldOf_78 (by decide) ?_
      exact pg_iret C hr hH hf dX4_toldOf_79
    · have hf := (if_neg cn).symm.trans hf
      refine lv_aload_n hx hb dX4_toldOf_69 rfl (lv_at hl 0 rfl) ?_
      refine pg_gR C hH fl_X4_19 hf dX4_toldOf_70 (fun v70 hf => ?_)
      refine lv_iload_n hx hb dX4_toldOf_73 rfl (lv_at hl 1 rfl) ?_
      refine pg_aI C hH hf dX4_toldOf_74 (fun v74 hf => ?_)
      refine lv_goto (tgt := 79) hx hb dX4_toldOf_75 (by decide) ?_
      exact pg_iret C hr hH hf dX4_toldOf_79
set_option maxHeartbeats 4000000 in
set_option maxRecDepth 100000 in
theorem wX4_toldOf_b52 {r : Int32} {h' : PH} (C : CT g RX4 cX4_toldOf 3 (Cond.code yX4_toldOf cX4_toldOf 3 (some .int) :: TB) p s m args meth c) (hr : meth.sig.returnType = some .int) {h : PH} {a0 : Nat} {x2 : Int32} {H : Heap} {locs : List Loc} {ls : Array Slot} (hH : HS g s H locs h) (hf : mX4_toldOf_b52 h a0 x2 = some (r, h')) (hl : lv_has ls 3 [(0, .ref (gB g + a0)), (2, .int x2)]) : W p l e (rmD 3 0 0) s m args below meth c H locs 0 0 (MQ below (QcI g r h') args s 0 0 (aB g)) (F0 m 52 ls []) := by
  obtain ⟨⟨hx, hb, hml, hown, hts⟩, htb, hlk, hkk, hbs⟩ := id C
  unfold mX4_toldOf_b52 at hf
  refine lv_aload_n hx hb dX4_toldOf_52 rfl (lv_at hl 0 rfl) ?_
  refine lv_iconst (v := (3 : Int32)) hx hb dX4_toldOf_53 (by decide) ?_
  refine pg_Vv (As := [.int (3 : Int32)]) C hH mi_X4_fail vl_X4_69 (q := (RX4, TX4, 8)) (ci := 4) rfl rfl hf (fun _ e1 => (oO_sp e1).1) (fun _ e1 => c_X4_fail e1) rfl rfl hl.1 (Nat.le_of_ble_eq_true rfl) ⟨Nat.le_of_ble_eq_true rfl, Nat.le_of_ble_eq_true rfl⟩ ⟨Nat.zero_le _, Nat.zero_le _⟩ dX4_toldOf_54 (fun H locs h54 hH hf => ?_)
  exact wX4_toldOf_b57 C hr hH hf (lv_sub hl [0, 1] rfl)
set_option maxHeartbeats 4000000 in
set_option maxRecDepth 100000 in
theorem c_X4_toldOf {l : Launch} {g : GD} {h : PH} {a0 : Nat} {x1 : Int32} {r : Int32} {h' : PH} (hf : mX4_toldOf h a0 x1 = some (r, h')) : Met l yX4_toldOf (Cond.code yX4_toldOf cX4_toldOf 3 (some .int) :: TB) (rmD 3 0 0) (PcH g [.ref (gB g + a0), .int x1] h) (QcI g r h') 0 0 (aB g) := by
  refine Met.ofW (cc := cX4_toldOf) (maxL := 3) (ret := some .int) (by decide) rfl ?_
  intro p e s m args below meth c s₁ B hml hv
  obtain ⟨rfl, hH0, hkk0⟩ := hv
  have C : CT g RX4 cX4_toldOf 3 (Cond.code yX4_toldOf cX4_toldOf 3 (some .int) :: TB) p s m _ meth c := pg_ct (Tw := []) B hml hH0 hkk0
  have hr := B.returns
  have hH : HS g s s.heap [] h := ⟨hH0, va_S.rf⟩
  have hl := lv_entry ([.ref (gB g + a0), .int x1]) (n := 3) (Nat.le_of_ble_eq_true rfl)
  rw [lg_entry_eq]
  generalize (lg_sl ([.ref (gB g + a0), .int x1]) ++ List.replicate (3 - (lg_sl ([.ref (gB g + a0), .int x1])).length) Slot.unset).toArray = ls at hl ⊢
  have hl : lv_has ls 3 [(0, .ref (gB g + a0)), (1, .int x1)] := hl
  show W p l e (rmD 3 0 0) _ _ _ _ _ _ _ _ _ _ _ _
  unfold mX4_toldOf at hf
  obtain ⟨hO, hf⟩ := oO_sp hf
  obtain ⟨⟨hx, hb, hml, hown, hts⟩, htb, hlk, hkk, hbs⟩ := id C
  refine lv_aload_n hx hb dX4_toldOf_0 rfl (lv_at hl 0 rfl) ?_
  refine pg_gR C hH fl_X4_27 hf dX4_toldOf_1 (fun v1 hf => ?_)
  refine pg_Vv (As := []) C hH mi_X7_next vl_X4_54 (q := (RX7, TX7, 8)) (ci := 7) rfl rfl hf (fun _ e1 => (oO_sp e1).1) (fun _ e1 => c_X7_next e1) rfl rfl hl.1 (Nat.le_of_ble_eq_true rfl) ⟨Nat.le_of_ble_eq_true rfl, Nat.le_of_ble_eq_true rfl⟩ ⟨Nat.zero_le _, Nat.zero_le _⟩ dX4_toldOf_4 (fun H locs h4 hH hf => ?_)
  refine lv_aload_n hx hb dX4_toldOf_7 rfl (lv_at hl 0 rfl) ?_
  refine lv_aload_n hx hb dX4_toldOf_8 rfl (lv_at hl 0 rfl) ?_
  refine pg_gR C hH fl_X4_27 hf dX4_toldOf_9 (fun v9 hf => ?_)
  refine pg_gL C hH fl_X4_151 hf dX4_toldOf_12 (fun v12 hf => ?_)
  refine pg_Vi (As := [.long v12]) C hH mi_X4_find vl_X4_174 (q := (RX4, TX4, 8)) (ci := 4) rfl rfl hf (fun _ e1 => (oO_sp e1).1) (fun _ _ e1 => c_X4_find e1) rfl rfl hl.1 (Nat.le_of_ble_eq_true rfl) ⟨Nat.le_of_ble_eq_true rfl, Nat.le_of_ble_eq_true rfl⟩ ⟨Nat.zero_le _, Nat.zero_le _⟩ dX4_toldOf_15 (fun H locs v15 h15 hH hf => ?_)
  refine lv_istore_n (lv' := [(2, .int v15), (0, .ref (gB g + a0)), (1, .int x1)]) hx hb dX4_toldOf_18 rfl hl (by decide) rfl (fun ls hl => ?_)
  refine lv_aload_n hx hb dX4_toldOf_19 rfl (lv_at hl 1 rfl) ?_
  refine pg_gR C hH fl_X4_27 hf dX4_toldOf_20 (fun v20 hf => ?_)
  refine pg_Vi (As := []) C hH mi_X7_isName vl_X4_170 (q := (RX7, TX7, 8)) (ci := 7) rfl rfl hf (fun _ e1 => (oO_sp e1).1) (fun _ _ e1 => c_X7_isName e1) rfl rfl hl.1 (Nat.le_of_ble_eq_true rfl) ⟨Nat.le_of_ble_eq_true rfl, Nat.le_of_ble_eq_true rfl⟩ ⟨Nat.zero_le _, Nat.zero_le _⟩ dX4_toldOf_23 (fun H locs v23 h23 hH hf => ?_)
  refine lv_if_ne (tgt := 37) hx hb dX4_toldOf_26 (by decide) (fun cn => ?_) (fun cn => ?_)
  · have hf := (if_neg cn).symm.trans hf
    refine lv_iload_n hx hb dX4_toldOf_37 rfl (lv_at hl 0 rfl) ?_
    refine lv_iconst (v := (-1 : Int32)) hx hb dX4_toldOf_38 (by decide) ?_
    refine lv_icmp_eq (tgt := 52) hx hb dX4_toldOf_39 (by decide) (fun cn => ?_) (fun cn => ?_)
    · have hf := (if_pos cn).symm.trans hf
      exact wX4_toldOf_b52 C hr hH hf (lv_sub hl [1, 0] rfl)
    · have hf := (if_neg cn).symm.trans hf
      refine lv_aload_n hx hb dX4_toldOf_42 rfl (lv_at hl 1 rfl) ?_
      refine pg_gR C hH fl_X4_15 hf dX4_toldOf_43 (fun v43 hf => ?_)
      refine lv_iload_n hx hb dX4_toldOf_46 rfl (lv_at hl 0 rfl) ?_
      refine pg_aI C hH hf dX4_toldOf_47 (fun v47 hf => ?_)
      refine lv_iload_n hx hb dX4_toldOf_48 rfl (lv_at hl 2 rfl) ?_
      refine lv_icmp_eq (tgt := 57) hx hb dX4_toldOf_49 (by decide) (fun cn => ?_) (fun cn => ?_)
      · have hf := (if_pos cn).symm.trans hf
        exact wX4_toldOf_b57 C hr hH hf (lv_sub hl [1, 0] rfl)
      · have hf := (if_neg cn).symm.trans hf
        exact wX4_toldOf_b52 C hr hH hf (lv_sub hl [1, 0] rfl)
  · have hf := (if_pos cn).symm.trans hf
    refine lv_aload_n hx hb dX4_toldOf_29 rfl (lv_at hl 1 rfl) ?_
    refine lv_iconst (v := (1 : Int32)) hx hb dX4_toldOf_30 (by decide) ?_
    refine pg_Vv (As := [.int (1 : Int32)]) C hH mi_X4_fail vl_X4_69 (q := (RX4, TX4, 8)) (ci := 4) rfl rfl hf (fun _ e1 => (oO_sp e1).1) (fun _ e1 => c_X4_fail e1) rfl rfl hl.1 (Nat.le_of_ble_eq_true rfl) ⟨Nat.le_of_ble_eq_true rfl, Nat.le_of_ble_eq_true rfl⟩ ⟨Nat.zero_le _, Nat.zero_le _⟩ dX4_toldOf_31 (fun H locs h31 hH hf => ?_)
    refine lv_goto (tgt := 57) hx hb dX4_toldOf_34 (by decide) ?_
    exact wX4_toldOf_b57 C hr hH hf (lv_sub hl [1, 0] rfl)
set_option maxHeartbeats 4000000 in
set_option maxRecDepth 100000 in
theorem c_X4_readKin {l : Launch} {g : GD} {h : PH} {a0 : Nat} {h' : PH} (hf : mX4_readKin h a0 = some h') : Met l yX4_readKin (Cond.code yX4_readKin cX4_readKin 3 (none) :: TB) (rmD 4 0 0) (PcH g [.ref (gB g + a0)] h) (QcV g h') 0 0 (aB g) := by
  refine Met.ofW (cc := cX4_readKin) (maxL := 3) (ret := none) (by decide) rfl ?_
  intro p e s m args below meth c s₁ B hml hv
  obtain ⟨rfl, hH0, hkk0⟩ := hv
  have C : CT g RX4 cX4_readKin 3 (Cond.code yX4_readKin cX4_readKin 3 (none) :: TB) p s m _ meth c := pg_ct (Tw := []) B hml hH0 hkk0
  have hr := B.returns
  have hH : HS g s s.heap [] h := ⟨hH0, va_S.rf⟩
  have hl := lv_entry ([.ref (gB g + a0)]) (n := 3) (Nat.le_of_ble_eq_true rfl)
  rw [lg_entry_eq]
  generalize (lg_sl ([.ref (gB g + a0)]) ++ List.replicate (3 - (lg_sl ([.ref (gB g + a0)])).length) Slot.unset).toArray = ls at hl ⊢
  have hl : lv_has ls 3 [(0, .ref (gB g + a0))] := hl
  show W p l e (rmD 4 0 0) _ _ _ _ _ _ _ _ _ _ _ _
  unfold mX4_readKin at hf
  obtain ⟨hO, hf⟩ := oO_sp hf
  obtain ⟨⟨hx, hb, hml, hown, hts⟩, htb, hlk, hkk, hbs⟩ := id C
  refine lv_aload_n hx hb dX4_readKin_0 rfl (lv_at hl 0 rfl) ?_
  refine lv_iconst (v := (0 : Int32)) hx hb dX4_readKin_1 (by decide) ?_
  refine pg_Vi (As := [.int (0 : Int32)]) C hH mi_X4_toldOf vl_X4_117 (q := (RX4, TX4, 8)) (ci := 4) rfl rfl hf (fun _ e1 => (oO_sp e1).1) (fun _ _ e1 => c_X4_toldOf e1) rfl rfl hl.1 (Nat.le_of_ble_eq_true rfl) ⟨Nat.le_of_ble_eq_true rfl, Nat.le_of_ble_eq_true rfl⟩ ⟨Nat.zero_le _, Nat.zero_le _⟩ dX4_readKin_2 (fun H locs v2 h2 hH hf => ?_)
  refine lv_istore_n (lv' := [(1, .int v2), (0, .ref (gB g + a0))]) hx hb dX4_readKin_5 rfl hl (by decide) rfl (fun ls hl => ?_)
  refine lv_aload_n hx hb dX4_readKin_6 rfl (lv_at hl 1 rfl) ?_
  refine lv_iconst (v := (0 : Int32)) hx hb dX4_readKin_7 (by decide) ?_
  refine pg_Vi (As := [.int (0 : Int32)]) C hH mi_X4_toldOf vl_X4_117 (q := (RX4, TX4, 8)) (ci := 4) rfl rfl hf (fun _ e1 => (oO_sp e1).1) (fun _ _ e1 => c_X4_toldOf e1) rfl rfl hl.1 (Nat.le_of_ble_eq_true rfl) ⟨Nat.le_of_ble_eq_true rfl, Nat.le_of_ble_eq_true rfl⟩ ⟨Nat.zero_le _, Nat.zero_le _⟩ dX4_readKin_8 (fun H locs v8 h8 hH hf => ?_)
  refine lv_istore_n (lv' := [(2, .int v8), (1, .int v2), (0, .ref (gB g + a0))]) hx hb dX4_readKin_11 rfl hl (by decide) rfl (fun ls hl => ?_)
  refine lv_iload_n hx hb dX4_readKin_12 rfl (lv_at hl 1 rfl) ?_
  refine lv_iload_n hx hb dX4_readKin_13 rfl (lv_at hl 0 rfl) ?_
  refine lv_icmp_ne (tgt := 25) hx hb dX4_readKin_14 (by decide) (fun cn => ?_) (fun cn => ?_)
  · have hf := (if_neg cn).symm.trans hf
    refine lv_aload_n hx hb dX4_readKin_25 rfl (lv_at hl 2 rfl) ?_
    refine pg_gR C hH fl_X4_31 hf dX4_readKin_26 (fun v26 hf => ?_)
    refine lv_iload_n hx hb dX4_readKin_29 rfl (lv_at hl 1 rfl) ?_
    refine lv_iload_n hx hb dX4_readKin_30 rfl (lv_at hl 0 rfl) ?_
    refine pg_Vi (As := [.int v2, .int v8]) C hH mi_X8_isTold vl_X4_121 (q := (RX8, TX8, 8)) (ci := 8) rfl rfl hf (fun _ e1 => (oO_sp e1).1) (fun _ _ e1 => c_X8_isTold e1) rfl rfl hl.1 (Nat.le_of_ble_eq_true rfl) ⟨Nat.le_of_ble_eq_true rfl, Nat.le_of_ble_eq_true rfl⟩ ⟨Nat.zero_le _, Nat.zero_le _⟩ dX4_readKin_31 (fun H locs v31 h31 hH hf => ?_)
    refine lv_if_eq (tgt := 45) hx hb dX4_readKin_34 (by decide) (fun cn => ?_) (fun cn => ?_)
    · have hf := (if_pos cn).symm.trans hf
      refine lv_aload_n hx hb dX4_readKin_45 rfl (lv_at hl 2 rfl) ?_
      refine pg_gR C hH fl_X4_31 hf dX4_readKin_46 (fun v46 hf => ?_)
      refine lv_iload_n hx hb dX4_readKin_49 rfl (lv_at hl 1 rfl) ?_
      refine lv_iload_n hx hb dX4_readKin_50 rfl (lv_at hl 0 rfl) ?_
      refine lv_iconst (v := (1 : Int32)) hx hb dX4_readKin_51 (by decide) ?_
      refine pg_Vv (As := [.int v2, .int v8, .int (1 : Int32)]) C hH mi_X8_tell vl_X4_125 (q := (RX8, TX8, 8)) (ci := 8) rfl rfl hf (fun _ e1 => (oO_sp e1).1) (fun _ e1 => c_X8_tell e1) rfl rfl hl.1 (Nat.le_of_ble_eq_true rfl) ⟨Nat.le_of_ble_eq_true rfl, Nat.le_of_ble_eq_true rfl⟩ ⟨Nat.zero_le _, Nat.zero_le _⟩ dX4_readKin_52 (fun H locs h52 hH hf => ?_)
      exact pg_vret C hr hH hf dX4_readKin_55
    · have hf := (if_neg cn).symm.trans hf
      refine lv_aload_n hx hb dX4_readKin_37 rfl (lv_at hl 2 rfl) ?_
      refine lv_iconst (v := (2 : Int32)) hx hb dX4_readKin_38 (by decide) ?_
      refine pg_Vv (As := [.int (2 : Int32)]) C hH mi_X4_fail vl_X4_69 (q := (RX4, TX4, 8)) (ci := 4) rfl rfl hf (fun _ e1 => (oO_sp e1).1) (fun _ e1 => c_X4_fail e1) rfl rfl hl.1 (Nat.le_of_ble_eq_true rfl) ⟨Nat.le_of_ble_eq_true rfl, Nat.le_of_ble_eq_true rfl⟩ ⟨Nat.zero_le _, Nat.zero_le _⟩ dX4_readKin_39 (fun H locs h39 hH hf => ?_)
      refine lv_goto (tgt := 55) hx hb dX4_readKin_42 (by decide) ?_
      exact pg_vret C hr hH hf dX4_readKin_55
  · have hf := (if_pos cn).symm.trans hf
    refine lv_aload_n hx hb dX4_readKin_17 rfl (lv_at hl 2 rfl) ?_
    refine lv_iconst (v := (4 : Int32)) hx hb dX4_readKin_18 (by decide) ?_
    refine pg_Vv (As := [.int (4 : Int32)]) C hH mi_X4_fail vl_X4_69 (q := (RX4, TX4, 8)) (ci := 4) rfl rfl hf (fun _ e1 => (oO_sp e1).1) (fun _ e1 => c_X4_fail e1) rfl rfl hl.1 (Nat.le_of_ble_eq_true rfl) ⟨Nat.le_of_ble_eq_true rfl, Nat.le_of_ble_eq_true rfl⟩ ⟨Nat.zero_le _, Nat.zero_le _⟩ dX4_readKin_19 (fun H locs h19 hH hf => ?_)
    refine lv_goto (tgt := 55) hx hb dX4_readKin_22 (by decide) ?_
    exact pg_vret C hr hH hf dX4_readKin_55
set_option maxHeartbeats 4000000 in
set_option maxRecDepth 100000 in
theorem c_X4_expect {l : Launch} {g : GD} {h : PH} {a0 : Nat} {x1 : Int32} {h' : PH} (hf : mX4_expect h a0 x1 = some h') : Met l yX4_expect (Cond.code yX4_expect cX4_expect 2 (none) :: TB) (rmD 3 0 0) (PcH g [.ref (gB g + a0), .int x1] h) (QcV g h') 0 0 (aB g) := by
  refine Met.ofW (cc := cX4_expect) (maxL := 2) (ret := none) (by decide) rfl ?_
  intro p e s m args below meth c s₁ B hml hv
  obtain ⟨rfl, hH0, hkk0⟩ := hv
  have C : CT g RX4 cX4_expect 2 (Cond.code yX4_expect cX4_expect 2 (none) :: TB) p s m _ meth c := pg_ct (Tw := []) B hml hH0 hkk0
  have hr := B.returns
  have hH : HS g s s.heap [] h := ⟨hH0, va_S.rf⟩
  have hl := lv_entry ([.ref (gB g + a0), .int x1]) (n := 2) (Nat.le_of_ble_eq_true rfl)
  rw [lg_entry_eq]
  generalize (lg_sl ([.ref (gB g + a0), .int x1]) ++ List.replicate (2 - (lg_sl ([.ref (gB g + a0), .int x1])).length) Slot.unset).toArray = ls at hl ⊢
  have hl : lv_has ls 2 [(0, .ref (gB g + a0)), (1, .int x1)] := hl
  show W p l e (rmD 3 0 0) _ _ _ _ _ _ _ _ _ _ _ _
  unfold mX4_expect at hf
  obtain ⟨hO, hf⟩ := oO_sp hf
  obtain ⟨⟨hx, hb, hml, hown, hts⟩, htb, hlk, hkk, hbs⟩ := id C
  refine lv_aload_n hx hb dX4_expect_0 rfl (lv_at hl 0 rfl) ?_
  refine pg_gR C hH fl_X4_27 hf dX4_expect_1 (fun v1 hf => ?_)
  refine pg_Vv (As := []) C hH mi_X7_next vl_X4_54 (q := (RX7, TX7, 8)) (ci := 7) rfl rfl hf (fun _ e1 => (oO_sp e1).1) (fun _ e1 => c_X7_next e1) rfl rfl hl.1 (Nat.le_of_ble_eq_true rfl) ⟨Nat.le_of_ble_eq_true rfl, Nat.le_of_ble_eq_true rfl⟩ ⟨Nat.zero_le _, Nat.zero_le _⟩ dX4_expect_4 (fun H locs h4 hH hf => ?_)
  refine lv_aload_n hx hb dX4_expect_7 rfl (lv_at hl 0 rfl) ?_
  refine pg_gR C hH fl_X4_27 hf dX4_expect_8 (fun v8 hf => ?_)
  refine pg_gI C hH fl_X4_60 hf dX4_expect_11 (fun v11 hf => ?_)
  refine lv_iload_n hx hb dX4_expect_14 rfl (lv_at hl 1 rfl) ?_
  refine lv_icmp_eq (tgt := 23) hx hb dX4_expect_15 (by decide) (fun cn => ?_) (fun cn => ?_)
  · have hf := (if_pos cn).symm.trans hf
    exact pg_vret C hr hH hf dX4_expect_23
  · have hf := (if_neg cn).symm.trans hf
    refine lv_aload_n hx hb dX4_expect_18 rfl (lv_at hl 0 rfl) ?_
    refine lv_iconst (v := (1 : Int32)) hx hb dX4_expect_19 (by decide) ?_
    refine pg_Vv (As := [.int (1 : Int32)]) C hH mi_X4_fail vl_X4_69 (q := (RX4, TX4, 8)) (ci := 4) rfl rfl hf (fun _ e1 => (oO_sp e1).1) (fun _ e1 => c_X4_fail e1) rfl rfl hl.1 (Nat.le_of_ble_eq_true rfl) ⟨Nat.le_of_ble_eq_true rfl, Nat.le_of_ble_eq_true rfl⟩ ⟨Nat.zero_le _, Nat.zero_le _⟩ dX4_expect_20 (fun H locs h20 hH hf => ?_)
    exact pg_vret C hr hH hf dX4_expect_23
set_option maxHeartbeats 4000000 in
set_option maxRecDepth 100000 in
theorem wX4_number_b57 {r : Int32} {h' : PH} (C : CT g RX4 cX4_number 3 (Cond.code yX4_number cX4_number 3 (some .int) :: TB) p s m args meth c) (hr : meth.sig.returnType = some .int) {h : PH} {a0 : Nat} {x1 : Int32} {H : Heap} {locs : List Loc} {ls : Array Slot} (hH : HS g s H locs h) (hf : mX4_number_b57 h a0 x1 = some (r, h')) (hl : lv_has ls 3 [(0, .ref (gB g + a0)), (1, .int x1)]) : W p l e (rmD 3 0 0) s m args below meth c H locs 0 0 (MQ below (QcI g r h') args s 0 0 (aB g)) (F0 m 57 ls []) := by
  obtain ⟨⟨hx, hb, hml, hown, hts⟩, htb, hlk, hkk, hbs⟩ := id C
  unfold mX4_number_b57 at hf
  refine lv_aload_n hx hb dX4_number_57 rfl (lv_at hl 0 rfl) ?_
  refine pg_gI C hH fl_X4_47 hf dX4_number_58 (fun v58 hf => ?_)
  refine lv_if_ne (tgt := 75) hx hb dX4_number_61 (by decide) (fun cn => ?_) (fun cn => ?_)
  · have hf := (if_neg cn).symm.trans hf
    refine lv_iload_n hx hb dX4_number_75 rfl (lv_at hl 1 rfl) ?_
    exact pg_iret C hr hH hf dX4_number_76
  · have hf := (if_pos cn).symm.trans hf
    refine lv_aload_n hx hb dX4_number_64 rfl (lv_at hl 0 rfl) ?_
    refine pg_gR C hH fl_X4_27 hf dX4_number_65 (fun v65 hf => ?_)
    refine pg_gL C hH fl_X4_151 hf dX4_number_68 (fun v68 hf => ?_)
    refine lv_l2i (v := (Int64.toInt32 v68)) hx hb dX4_number_71 rfl ?_
    refine lv_goto (tgt := 76) hx hb dX4_number_72 (by decide) ?_
    exact pg_iret C hr hH hf dX4_number_76
set_option maxHeartbeats 4000000 in
set_option maxRecDepth 100000 in
theorem wX4_number_b52 {r : Int32} {h' : PH} (C : CT g RX4 cX4_number 3 (Cond.code yX4_number cX4_number 3 (some .int) :: TB) p s m args meth c) (hr : meth.sig.returnType = some .int) {h : PH} {a0 : Nat} {x1 : Int32} {H : Heap} {locs : List Loc} {ls : Array Slot} (hH : HS g s H locs h) (hf : mX4_number_b52 h a0 x1 = some (r, h')) (hl : lv_has ls 3 [(0, .ref (gB g + a0)), (1, .int x1)]) : W p l e (rmD 3 0 0) s m args below meth c H locs 0 0 (MQ below (QcI g r h') args s 0 0 (aB g)) (F0 m 52 ls []) := by
  obtain ⟨⟨hx, hb, hml, hown, hts⟩, htb, hlk, hkk, hbs⟩ := id C
  unfold mX4_number_b52 at hf
  refine lv_aload_n hx hb dX4_number_52 rfl (lv_at hl 0 rfl) ?_
  refine lv_iconst (v := (4 : Int32)) hx hb dX4_number_53 (by decide) ?_
  refine pg_Vv (As := [.int (4 : Int32)]) C hH mi_X4_fail vl_X4_69 (q := (RX4, TX4, 8)) (ci := 4) rfl rfl hf (fun _ e1 => (oO_sp e1).1) (fun _ e1 => c_X4_fail e1) rfl rfl hl.1 (Nat.le_of_ble_eq_true rfl) ⟨Nat.le_of_ble_eq_true rfl, Nat.le_of_ble_eq_true rfl⟩ ⟨Nat.zero_le _, Nat.zero_le _⟩ dX4_number_54 (fun H locs h54 hH hf => ?_)
  exact wX4_number_b57 C hr hH hf (lv_sub hl [0, 1] rfl)
set_option maxHeartbeats 4000000 in
set_option maxRecDepth 100000 in
theorem c_X4_number {l : Launch} {g : GD} {h : PH} {a0 : Nat} {x1 : Int32} {x2 : Int32} {r : Int32} {h' : PH} (hf : mX4_number h a0 x1 x2 = some (r, h')) : Met l yX4_number (Cond.code yX4_number cX4_number 3 (some .int) :: TB) (rmD 3 0 0) (PcH g [.ref (gB g + a0), .int x1, .int x2] h) (QcI g r h') 0 0 (aB g) := by
  refine Met.ofW (cc := cX4_number) (maxL := 3) (ret := some .int) (by decide) rfl ?_
  intro p e s m args below meth c s₁ B hml hv
  obtain ⟨rfl, hH0, hkk0⟩ := hv
  have C : CT g RX4 cX4_number 3 (Cond.code yX4_number cX4_number 3 (some .int) :: TB) p s m _ meth c := pg_ct (Tw := []) B hml hH0 hkk0
  have hr := B.returns
  have hH : HS g s s.heap [] h := ⟨hH0, va_S.rf⟩
  have hl := lv_entry ([.ref (gB g + a0), .int x1, .int x2]) (n := 3) (Nat.le_of_ble_eq_true rfl)
  rw [lg_entry_eq]
  generalize (lg_sl ([.ref (gB g + a0), .int x1, .int x2]) ++ List.replicate (3 - (lg_sl ([.ref (gB g + a0), .int x1, .int x2])).length) Slot.unset).toArray = ls at hl ⊢
  have hl : lv_has ls 3 [(0, .ref (gB g + a0)), (1, .int x1), (2, .int x2)] := hl
  show W p l e (rmD 3 0 0) _ _ _ _ _ _ _ _ _ _ _ _
  unfold mX4_number at hf
  obtain ⟨hO, hf⟩ := oO_sp hf
  obtain ⟨⟨hx, hb, hml, hown, hts⟩, htb, hlk, hkk, hbs⟩ := id C
  refine lv_aload_n hx hb dX4_number_0 rfl (lv_at hl 0 rfl) ?_
  refine pg_gR C hH fl_X4_27 hf dX4_number_1 (fun v1 hf => ?_)
  refine pg_Vv (As := []) C hH mi_X7_next vl_X4_54 (q := (RX7, TX7, 8)) (ci := 7) rfl rfl hf (fun _ e1 => (oO_sp e1).1) (fun _ e1 => c_X7_next e1) rfl rfl hl.1 (Nat.le_of_ble_eq_true rfl) ⟨Nat.le_of_ble_eq_true rfl, Nat.le_of_ble_eq_true rfl⟩ ⟨Nat.zero_le _, Nat.zero_le _⟩ dX4_number_4 (fun H locs h4 hH hf => ?_)
  refine lv_aload_n hx hb dX4_number_7 rfl (lv_at hl 0 rfl) ?_
  refine pg_gR C hH fl_X4_27 hf dX4_number_8 (fun v8 hf => ?_)
  refine pg_gI C hH fl_X4_57 hf dX4_number_11 (fun v11 hf => ?_)
  refine lv_iconst (v := (2 : Int32)) hx hb dX4_number_14 (by decide) ?_
  refine lv_icmp_eq (tgt := 26) hx hb dX4_number_15 (by decide) (fun cn => ?_) (fun cn => ?_)
  · have hf := (if_pos cn).symm.trans hf
    refine lv_aload_n hx hb dX4_number_26 rfl (lv_at hl 0 rfl) ?_
    refine pg_gR C hH fl_X4_27 hf dX4_number_27 (fun v27 hf => ?_)
    refine pg_gL C hH fl_X4_151 hf dX4_number_30 (fun v30 hf => ?_)
    refine lv_iload_n hx hb dX4_number_33 rfl (lv_at hl 1 rfl) ?_
    refine lv_i2l (v := (Int32.toInt64 x1)) hx hb dX4_number_34 rfl ?_
    refine W.lcmp hx hb dX4_number_35 ?_
    refine lv_if_lt (tgt := 52) hx hb dX4_number_36 (by decide) (fun cn => ?_) (fun cn => ?_)
    · have hf := (if_pos ((lg_cmp_lt _ _).mp cn)).symm.trans hf
      exact wX4_number_b52 C hr hH hf (lv_sub hl [0, 1] rfl)
    · have hf := (if_neg (fun z => cn ((lg_cmp_lt _ _).mpr z))).symm.trans hf
      refine lv_aload_n hx hb dX4_number_39 rfl (lv_at hl 0 rfl) ?_
      refine pg_gR C hH fl_X4_27 hf dX4_number_40 (fun v40 hf => ?_)
      refine pg_gL C hH fl_X4_151 hf dX4_number_43 (fun v43 hf => ?_)
      refine lv_iload_n hx hb dX4_number_46 rfl (lv_at hl 2 rfl) ?_
      refine lv_i2l (v := (Int32.toInt64 x2)) hx hb dX4_number_47 rfl ?_
      refine W.lcmp hx hb dX4_number_48 ?_
      refine lv_if_le (tgt := 57) hx hb dX4_number_49 (by decide) (fun cn => ?_) (fun cn => ?_)
      · have hf := (if_pos ((lg_cmp_le _ _).mp cn)).symm.trans hf
        exact wX4_number_b57 C hr hH hf (lv_sub hl [0, 1] rfl)
      · have hf := (if_neg (fun z => cn ((lg_cmp_le _ _).mpr z))).symm.trans hf
        exact wX4_number_b52 C hr hH hf (lv_sub hl [0, 1] rfl)
  · have hf := (if_neg cn).symm.trans hf
    refine lv_aload_n hx hb dX4_number_18 rfl (lv_at hl 0 rfl) ?_
    refine lv_iconst (v := (1 : Int32)) hx hb dX4_number_19 (by decide) ?_
    refine pg_Vv (As := [.int (1 : Int32)]) C hH mi_X4_fail vl_X4_69 (q := (RX4, TX4, 8)) (ci := 4) rfl rfl hf (fun _ e1 => (oO_sp e1).1) (fun _ e1 => c_X4_fail e1) rfl rfl hl.1 (Nat.le_of_ble_eq_true rfl) ⟨Nat.le_of_ble_eq_true rfl, Nat.le_of_ble_eq_true rfl⟩ ⟨Nat.zero_le _, Nat.zero_le _⟩ dX4_number_20 (fun H locs h20 hH hf => ?_)
    refine lv_goto (tgt := 57) hx hb dX4_number_23 (by decide) ?_
    exact wX4_number_b57 C hr hH hf (lv_sub hl [0, 1] rfl)
set_option maxHeartbeats 4000000 in
set_option maxRecDepth 100000 in
theorem c_X4_readGood {l : Launch} {g : GD} {h : PH} {a0 : Nat} {h' : PH} (hf : mX4_readGood h a0 = some h') : Met l yX4_readGood (Cond.code yX4_readGood cX4_readGood 2 (none) :: TB) (rmD 4 0 0) (PcH g [.ref (gB g + a0)] h) (QcV g h') 0 0 (aB g) := by
  refine Met.ofW (cc := cX4_readGood) (maxL := 2) (ret := none) (by decide) rfl ?_
  intro p e s m args below meth c s₁ B hml hv
  obtain ⟨rfl, hH0, hkk0⟩ := hv
  have C : CT g RX4 cX4_readGood 2 (Cond.code yX4_readGood cX4_readGood 2 (none) :: TB) p s m _ meth c := pg_ct (Tw := []) B hml hH0 hkk0
  have hr := B.returns
  have hH : HS g s s.heap [] h := ⟨hH0, va_S.rf⟩
  have hl := lv_entry ([.ref (gB g + a0)]) (n := 2) (Nat.le_of_ble_eq_true rfl)
  rw [lg_entry_eq]
  generalize (lg_sl ([.ref (gB g + a0)]) ++ List.replicate (2 - (lg_sl ([.ref (gB g + a0)])).length) Slot.unset).toArray = ls at hl ⊢
  have hl : lv_has ls 2 [(0, .ref (gB g + a0))] := hl
  show W p l e (rmD 4 0 0) _ _ _ _ _ _ _ _ _ _ _ _
  unfold mX4_readGood at hf
  obtain ⟨hO, hf⟩ := oO_sp hf
  obtain ⟨⟨hx, hb, hml, hown, hts⟩, htb, hlk, hkk, hbs⟩ := id C
  refine lv_aload_n hx hb dX4_readGood_0 rfl (lv_at hl 0 rfl) ?_
  refine pg_gR C hH fl_X4_31 hf dX4_readGood_1 (fun v1 hf => ?_)
  refine pg_gR C hH fl_X4_129 hf dX4_readGood_4 (fun v4 hf => ?_)
  refine lv_aload_n hx hb dX4_readGood_7 rfl (lv_at hl 0 rfl) ?_
  refine pg_gR C hH fl_X4_31 hf dX4_readGood_8 (fun v8 hf => ?_)
  refine pg_gR C hH fl_X4_76 hf dX4_readGood_11 (fun v11 hf => ?_)
  refine lv_iconst (v := (1 : Int32)) hx hb dX4_readGood_14 (by decide) ?_
  refine pg_aI C hH hf dX4_readGood_15 (fun v15 hf => ?_)
  refine pg_aR C hH (Or.inr rfl) hf dX4_readGood_16 (fun v16 hf => ?_)
  refine lv_astore_n (lv' := [(1, .ref (gB g + v16)), (0, .ref (gB g + a0))]) hx hb dX4_readGood_17 rfl hl (by decide) rfl (fun ls hl => ?_)
  refine lv_aload_n hx hb dX4_readGood_18 rfl (lv_at hl 1 rfl) ?_
  refine lv_iconst (v := (1 : Int32)) hx hb dX4_readGood_19 (by decide) ?_
  refine pg_Vv (As := [.int (1 : Int32)]) C hH mi_X4_giveName vl_X4_114 (q := (RX4, TX4, 8)) (ci := 4) rfl rfl hf (fun _ e1 => (oO_sp e1).1) (fun _ e1 => c_X4_giveName e1) rfl rfl hl.1 (Nat.le_of_ble_eq_true rfl) ⟨Nat.le_of_ble_eq_true rfl, Nat.le_of_ble_eq_true rfl⟩ ⟨Nat.zero_le _, Nat.zero_le _⟩ dX4_readGood_20 (fun H locs h20 hH hf => ?_)
  refine lv_aload_n hx hb dX4_readGood_23 rfl (lv_at hl 1 rfl) ?_
  refine lv_bipush (v := (12 : Int32)) hx hb dX4_readGood_24 (by decide) ?_
  refine pg_Vv (As := [.int (12 : Int32)]) C hH mi_X4_expect vl_X4_132 (q := (RX4, TX4, 8)) (ci := 4) rfl rfl hf (fun _ e1 => (oO_sp e1).1) (fun _ e1 => c_X4_expect e1) rfl rfl hl.1 (Nat.le_of_ble_eq_true rfl) ⟨Nat.le_of_ble_eq_true rfl, Nat.le_of_ble_eq_true rfl⟩ ⟨Nat.zero_le _, Nat.zero_le _⟩ dX4_readGood_26 (fun H locs h26 hH hf => ?_)
  refine lv_aload_n hx hb dX4_readGood_29 rfl (lv_at hl 0 rfl) ?_
  refine lv_iconst (v := (0 : Int32)) hx hb dX4_readGood_30 (by decide) ?_
  refine lv_aload_n hx hb dX4_readGood_31 rfl (lv_at hl 1 rfl) ?_
  refine lv_iconst (v := (0 : Int32)) hx hb dX4_readGood_32 (by decide) ?_
  refine lv_bipush (v := (9 : Int32)) hx hb dX4_readGood_33 (by decide) ?_
  refine pg_Vi (As := [.int (0 : Int32), .int (9 : Int32)]) C hH mi_X4_number vl_X4_135 (q := (RX4, TX4, 8)) (ci := 4) rfl rfl hf (fun _ e1 => (oO_sp e1).1) (fun _ _ e1 => c_X4_number e1) rfl rfl hl.1 (Nat.le_of_ble_eq_true rfl) ⟨Nat.le_of_ble_eq_true rfl, Nat.le_of_ble_eq_true rfl⟩ ⟨Nat.zero_le _, Nat.zero_le _⟩ dX4_readGood_35 (fun H locs v35 h35 hH hf => ?_)
  refine pg_sI C hH hf dX4_readGood_38 (fun H locs h38 hH hf => ?_)
  refine lv_aload_n hx hb dX4_readGood_39 rfl (lv_at hl 1 rfl) ?_
  refine lv_bipush (v := (13 : Int32)) hx hb dX4_readGood_40 (by decide) ?_
  refine pg_Vv (As := [.int (13 : Int32)]) C hH mi_X4_expect vl_X4_132 (q := (RX4, TX4, 8)) (ci := 4) rfl rfl hf (fun _ e1 => (oO_sp e1).1) (fun _ e1 => c_X4_expect e1) rfl rfl hl.1 (Nat.le_of_ble_eq_true rfl) ⟨Nat.le_of_ble_eq_true rfl, Nat.le_of_ble_eq_true rfl⟩ ⟨Nat.zero_le _, Nat.zero_le _⟩ dX4_readGood_42 (fun H locs h42 hH hf => ?_)
  refine lv_aload_n hx hb dX4_readGood_45 rfl (lv_at hl 0 rfl) ?_
  refine lv_iconst (v := (1 : Int32)) hx hb dX4_readGood_46 (by decide) ?_
  refine lv_aload_n hx hb dX4_readGood_47 rfl (lv_at hl 1 rfl) ?_
  refine lv_iconst (v := (0 : Int32)) hx hb dX4_readGood_48 (by decide) ?_
  refine lv_bipush (v := (9 : Int32)) hx hb dX4_readGood_49 (by decide) ?_
  refine pg_Vi (As := [.int (0 : Int32), .int (9 : Int32)]) C hH mi_X4_number vl_X4_135 (q := (RX4, TX4, 8)) (ci := 4) rfl rfl hf (fun _ e1 => (oO_sp e1).1) (fun _ _ e1 => c_X4_number e1) rfl rfl hl.1 (Nat.le_of_ble_eq_true rfl) ⟨Nat.le_of_ble_eq_true rfl, Nat.le_of_ble_eq_true rfl⟩ ⟨Nat.zero_le _, Nat.zero_le _⟩ dX4_readGood_51 (fun H locs v51 h51 hH hf => ?_)
  refine pg_sI C hH hf dX4_readGood_54 (fun H locs h54 hH hf => ?_)
  refine lv_aload_n hx hb dX4_readGood_55 rfl (lv_at hl 0 rfl) ?_
  refine lv_iconst (v := (2 : Int32)) hx hb dX4_readGood_56 (by decide) ?_
  refine lv_iconst (v := (0 : Int32)) hx hb dX4_readGood_57 (by decide) ?_
  refine pg_sI C hH hf dX4_readGood_58 (fun H locs h58 hH hf => ?_)
  refine lv_aload_n hx hb dX4_readGood_59 rfl (lv_at hl 0 rfl) ?_
  refine lv_iconst (v := (3 : Int32)) hx hb dX4_readGood_60 (by decide) ?_
  refine lv_iconst (v := (0 : Int32)) hx hb dX4_readGood_61 (by decide) ?_
  refine pg_sI C hH hf dX4_readGood_62 (fun H locs h62 hH hf => ?_)
  refine lv_aload_n hx hb dX4_readGood_63 rfl (lv_at hl 1 rfl) ?_
  refine pg_gR C hH fl_X4_31 hf dX4_readGood_64 (fun v64 hf => ?_)
  refine pg_gR C hH fl_X4_76 hf dX4_readGood_67 (fun v67 hf => ?_)
  refine lv_iconst (v := (1 : Int32)) hx hb dX4_readGood_70 (by decide) ?_
  refine lv_dup2_11 hx hb dX4_readGood_71 rfl rfl ?_
  refine pg_aI C hH hf dX4_readGood_72 (fun v72 hf => ?_)
  refine lv_iconst (v := (1 : Int32)) hx hb dX4_readGood_73 (by decide) ?_
  refine lv_iadd hx hb dX4_readGood_74 ?_
  refine pg_sI C hH hf dX4_readGood_75 (fun H locs h75 hH hf => ?_)
  exact pg_vret C hr hH hf dX4_readGood_76
set_option maxHeartbeats 4000000 in
set_option maxRecDepth 100000 in
theorem wX4_readAssist_b94 {h' : PH} (C : CT g RX4 cX4_readAssist 2 (Cond.code yX4_readAssist cX4_readAssist 2 (none) :: TB) p s m args meth c) (hr : meth.sig.returnType = none) {h : PH} {a0 : Nat} {H : Heap} {locs : List Loc} {ls : Array Slot} (hH : HS g s H locs h) (hf : mX4_readAssist_b94 h a0 = some h') (hl : lv_has ls 2 [(0, .ref (gB g + a0))]) : W p l e (rmD 4 0 0) s m args below meth c H locs 0 0 (MQ below (QcV g h') args s 0 0 (aB g)) (F0 m 94 ls []) := by
  obtain ⟨⟨hx, hb, hml, hown, hts⟩, htb, hlk, hkk, hbs⟩ := id C
  unfold mX4_readAssist_b94 at hf
  refine lv_aload_n hx hb dX4_readAssist_94 rfl (lv_at hl 0 rfl) ?_
  refine pg_gR C hH fl_X4_31 hf dX4_readAssist_95 (fun v95 hf => ?_)
  refine pg_gR C hH fl_X4_76 hf dX4_readAssist_98 (fun v98 hf => ?_)
  refine lv_iconst (v := (2 : Int32)) hx hb dX4_readAssist_101 (by decide) ?_
  refine lv_dup2_11 hx hb dX4_readAssist_102 rfl rfl ?_
  refine pg_aI C hH hf dX4_readAssist_103 (fun v103 hf => ?_)
  refine lv_iconst (v := (1 : Int32)) hx hb dX4_readAssist_104 (by decide) ?_
  refine lv_iadd hx hb dX4_readAssist_105 ?_
  refine pg_sI C hH hf dX4_readAssist_106 (fun H locs h106 hH hf => ?_)
  exact pg_vret C hr hH hf dX4_readAssist_107
set_option maxHeartbeats 4000000 in
set_option maxRecDepth 100000 in
theorem c_X4_readAssist {l : Launch} {g : GD} {h : PH} {a0 : Nat} {h' : PH} (hf : mX4_readAssist h a0 = some h') : Met l yX4_readAssist (Cond.code yX4_readAssist cX4_readAssist 2 (none) :: TB) (rmD 4 0 0) (PcH g [.ref (gB g + a0)] h) (QcV g h') 0 0 (aB g) := by
  refine Met.ofW (cc := cX4_readAssist) (maxL := 2) (ret := none) (by decide) rfl ?_
  intro p e s m args below meth c s₁ B hml hv
  obtain ⟨rfl, hH0, hkk0⟩ := hv
  have C : CT g RX4 cX4_readAssist 2 (Cond.code yX4_readAssist cX4_readAssist 2 (none) :: TB) p s m _ meth c := pg_ct (Tw := []) B hml hH0 hkk0
  have hr := B.returns
  have hH : HS g s s.heap [] h := ⟨hH0, va_S.rf⟩
  have hl := lv_entry ([.ref (gB g + a0)]) (n := 2) (Nat.le_of_ble_eq_true rfl)
  rw [lg_entry_eq]
  generalize (lg_sl ([.ref (gB g + a0)]) ++ List.replicate (2 - (lg_sl ([.ref (gB g + a0)])).length) Slot.unset).toArray = ls at hl ⊢
  have hl : lv_has ls 2 [(0, .ref (gB g + a0))] := hl
  show W p l e (rmD 4 0 0) _ _ _ _ _ _ _ _ _ _ _ _
  unfold mX4_readAssist at hf
  obtain ⟨hO, hf⟩ := oO_sp hf
  obtain ⟨⟨hx, hb, hml, hown, hts⟩, htb, hlk, hkk, hbs⟩ := id C
  refine lv_aload_n hx hb dX4_readAssist_0 rfl (lv_at hl 0 rfl) ?_
  refine pg_gR C hH fl_X4_31 hf dX4_readAssist_1 (fun v1 hf => ?_)
  refine pg_gR C hH fl_X4_139 hf dX4_readAssist_4 (fun v4 hf => ?_)
  refine lv_aload_n hx hb dX4_readAssist_7 rfl (lv_at hl 0 rfl) ?_
  refine pg_gR C hH fl_X4_31 hf dX4_readAssist_8 (fun v8 hf => ?_)
  refine pg_gR C hH fl_X4_76 hf dX4_readAssist_11 (fun v11 hf => ?_)
  refine lv_iconst (v := (2 : Int32)) hx hb dX4_readAssist_14 (by decide) ?_
  refine pg_aI C hH hf dX4_readAssist_15 (fun v15 hf => ?_)
  refine pg_aR C hH (Or.inr rfl) hf dX4_readAssist_16 (fun v16 hf => ?_)
  refine lv_astore_n (lv' := [(1, .ref (gB g + v16)), (0, .ref (gB g + a0))]) hx hb dX4_readAssist_17 rfl hl (by decide) rfl (fun ls hl => ?_)
  refine lv_aload_n hx hb dX4_readAssist_18 rfl (lv_at hl 1 rfl) ?_
  refine lv_iconst (v := (2 : Int32)) hx hb dX4_readAssist_19 (by decide) ?_
  refine pg_Vv (As := [.int (2 : Int32)]) C hH mi_X4_giveName vl_X4_114 (q := (RX4, TX4, 8)) (ci := 4) rfl rfl hf (fun _ e1 => (oO_sp e1).1) (fun _ e1 => c_X4_giveName e1) rfl rfl hl.1 (Nat.le_of_ble_eq_true rfl) ⟨Nat.le_of_ble_eq_true rfl, Nat.le_of_ble_eq_true rfl⟩ ⟨Nat.zero_le _, Nat.zero_le _⟩ dX4_readAssist_20 (fun H locs h20 hH hf => ?_)
  refine lv_aload_n hx hb dX4_readAssist_23 rfl (lv_at hl 1 rfl) ?_
  refine lv_bipush (v := (14 : Int32)) hx hb dX4_readAssist_24 (by decide) ?_
  refine pg_Vv (As := [.int (14 : Int32)]) C hH mi_X4_expect vl_X4_132 (q := (RX4, TX4, 8)) (ci := 4) rfl rfl hf (fun _ e1 => (oO_sp e1).1) (fun _ e1 => c_X4_expect e1) rfl rfl hl.1 (Nat.le_of_ble_eq_true rfl) ⟨Nat.le_of_ble_eq_true rfl, Nat.le_of_ble_eq_true rfl⟩ ⟨Nat.zero_le _, Nat.zero_le _⟩ dX4_readAssist_26 (fun H locs h26 hH hf => ?_)
  refine lv_aload_n hx hb dX4_readAssist_29 rfl (lv_at hl 0 rfl) ?_
  refine lv_iconst (v := (0 : Int32)) hx hb dX4_readAssist_30 (by decide) ?_
  refine lv_aload_n hx hb dX4_readAssist_31 rfl (lv_at hl 1 rfl) ?_
  refine lv_iconst (v := (1 : Int32)) hx hb dX4_readAssist_32 (by decide) ?_
  refine lv_sipush (v := (9999 : Int32)) hx hb dX4_readAssist_33 (by decide) ?_
  refine pg_Vi (As := [.int (1 : Int32), .int (9999 : Int32)]) C hH mi_X4_number vl_X4_135 (q := (RX4, TX4, 8)) (ci := 4) rfl rfl hf (fun _ e1 => (oO_sp e1).1) (fun _ _ e1 => c_X4_number e1) rfl rfl hl.1 (Nat.le_of_ble_eq_true rfl) ⟨Nat.le_of_ble_eq_true rfl, Nat.le_of_ble_eq_true rfl⟩ ⟨Nat.zero_le _, Nat.zero_le _⟩ dX4_readAssist_36 (fun H locs v36 h36 hH hf => ?_)
  refine pg_sI C hH hf dX4_readAssist_39 (fun H locs h39 hH hf => ?_)
  refine lv_aload_n hx hb dX4_readAssist_40 rfl (lv_at hl 0 rfl) ?_
  refine lv_iconst (v := (1 : Int32)) hx hb dX4_readAssist_41 (by decide) ?_
  refine lv_iconst (v := (0 : Int32)) hx hb dX4_readAssist_42 (by decide) ?_
  refine pg_sI C hH hf dX4_readAssist_43 (fun H locs h43 hH hf => ?_)
  refine lv_aload_n hx hb dX4_readAssist_44 rfl (lv_at hl 1 rfl) ?_
  refine pg_gR C hH fl_X4_27 hf dX4_readAssist_45 (fun v45 hf => ?_)
  refine pg_Vv (As := []) C hH mi_X7_next vl_X4_54 (q := (RX7, TX7, 8)) (ci := 7) rfl rfl hf (fun _ e1 => (oO_sp e1).1) (fun _ e1 => c_X7_next e1) rfl rfl hl.1 (Nat.le_of_ble_eq_true rfl) ⟨Nat.le_of_ble_eq_true rfl, Nat.le_of_ble_eq_true rfl⟩ ⟨Nat.zero_le _, Nat.zero_le _⟩ dX4_readAssist_48 (fun H locs h48 hH hf => ?_)
  refine lv_aload_n hx hb dX4_readAssist_51 rfl (lv_at hl 1 rfl) ?_
  refine pg_gR C hH fl_X4_27 hf dX4_readAssist_52 (fun v52 hf => ?_)
  refine pg_gI C hH fl_X4_60 hf dX4_readAssist_55 (fun v55 hf => ?_)
  refine lv_bipush (v := (16 : Int32)) hx hb dX4_readAssist_58 (by decide) ?_
  refine lv_icmp_ne (tgt := 77) hx hb dX4_readAssist_60 (by decide) (fun cn => ?_) (fun cn => ?_)
  · have hf := (if_neg cn).symm.trans hf
    refine lv_aload_n hx hb dX4_readAssist_77 rfl (lv_at hl 1 rfl) ?_
    refine pg_gR C hH fl_X4_27 hf dX4_readAssist_78 (fun v78 hf => ?_)
    refine pg_gI C hH fl_X4_60 hf dX4_readAssist_81 (fun v81 hf => ?_)
    refine lv_bipush (v := (15 : Int32)) hx hb dX4_readAssist_84 (by decide) ?_
    refine lv_icmp_eq (tgt := 94) hx hb dX4_readAssist_86 (by decide) (fun cn => ?_) (fun cn => ?_)
    · have hf := (if_pos cn).symm.trans hf
      exact wX4_readAssist_b94 C hr hH hf (lv_sub hl [1] rfl)
    · have hf := (if_neg cn).symm.trans hf
      refine lv_aload_n hx hb dX4_readAssist_89 rfl (lv_at hl 1 rfl) ?_
      refine lv_iconst (v := (1 : Int32)) hx hb dX4_readAssist_90 (by decide) ?_
      refine pg_Vv (As := [.int (1 : Int32)]) C hH mi_X4_fail vl_X4_69 (q := (RX4, TX4, 8)) (ci := 4) rfl rfl hf (fun _ e1 => (oO_sp e1).1) (fun _ e1 => c_X4_fail e1) rfl rfl hl.1 (Nat.le_of_ble_eq_true rfl) ⟨Nat.le_of_ble_eq_true rfl, Nat.le_of_ble_eq_true rfl⟩ ⟨Nat.zero_le _, Nat.zero_le _⟩ dX4_readAssist_91 (fun H locs h91 hH hf => ?_)
      exact wX4_readAssist_b94 C hr hH hf (lv_sub hl [1] rfl)
  · have hf := (if_pos cn).symm.trans hf
    refine lv_aload_n hx hb dX4_readAssist_63 rfl (lv_at hl 0 rfl) ?_
    refine lv_iconst (v := (1 : Int32)) hx hb dX4_readAssist_64 (by decide) ?_
    refine lv_aload_n hx hb dX4_readAssist_65 rfl (lv_at hl 1 rfl) ?_
    refine lv_iconst (v := (1 : Int32)) hx hb dX4_readAssist_66 (by decide) ?_
    refine lv_sipush (v := (9999 : Int32)) hx hb dX4_readAssist_67 (by decide) ?_
    refine pg_Vi (As := [.int (1 : Int32), .int (9999 : Int32)]) C hH mi_X4_number vl_X4_135 (q := (RX4, TX4, 8)) (ci := 4) rfl rfl hf (fun _ e1 => (oO_sp e1).1) (fun _ _ e1 => c_X4_number e1) rfl rfl hl.1 (Nat.le_of_ble_eq_true rfl) ⟨Nat.le_of_ble_eq_true rfl, Nat.le_of_ble_eq_true rfl⟩ ⟨Nat.zero_le _, Nat.zero_le _⟩ dX4_readAssist_70 (fun H locs v70 h70 hH hf => ?_)
    refine pg_sI C hH hf dX4_readAssist_73 (fun H locs h73 hH hf => ?_)
    refine lv_goto (tgt := 94) hx hb dX4_readAssist_74 (by decide) ?_
    exact wX4_readAssist_b94 C hr hH hf (lv_sub hl [1] rfl)
set_option maxHeartbeats 4000000 in
set_option maxRecDepth 100000 in
theorem wX4_readSale_b72 {h' : PH} (C : CT g RX4 cX4_readSale 2 (Cond.code yX4_readSale cX4_readSale 2 (none) :: TB) p s m args meth c) (hr : meth.sig.returnType = none) {h : PH} {a0 : Nat} {a1 : Nat} {H : Heap} {locs : List Loc} {ls : Array Slot} (hH : HS g s H locs h) (hf : mX4_readSale_b72 h a0 a1 = some h') (hl : lv_has ls 2 [(0, .ref (gB g + a0)), (1, .ref (gB g + a1))]) : W p l e (rmD 4 0 0) s m args below meth c H locs 0 0 (MQ below (QcV g h') args s 0 0 (aB g)) (F0 m 72 ls []) := by
  obtain ⟨⟨hx, hb, hml, hown, hts⟩, htb, hlk, hkk, hbs⟩ := id C
  unfold mX4_readSale_b72 at hf
  refine lv_aload_n hx hb dX4_readSale_72 rfl (lv_at hl 0 rfl) ?_
  refine lv_bipush (v := (17 : Int32)) hx hb dX4_readSale_73 (by decide) ?_
  refine pg_Vv (As := [.int (17 : Int32)]) C hH mi_X4_expect vl_X4_132 (q := (RX4, TX4, 8)) (ci := 4) rfl rfl hf (fun _ e1 => (oO_sp e1).1) (fun _ e1 => c_X4_expect e1) rfl rfl hl.1 (Nat.le_of_ble_eq_true rfl) ⟨Nat.le_of_ble_eq_true rfl, Nat.le_of_ble_eq_true rfl⟩ ⟨Nat.zero_le _, Nat.zero_le _⟩ dX4_readSale_75 (fun H locs h75 hH hf => ?_)
  refine lv_aload_n hx hb dX4_readSale_78 rfl (lv_at hl 1 rfl) ?_
  refine lv_iconst (v := (3 : Int32)) hx hb dX4_readSale_79 (by decide) ?_
  refine lv_aload_n hx hb dX4_readSale_80 rfl (lv_at hl 0 rfl) ?_
  refine lv_iconst (v := (1 : Int32)) hx hb dX4_readSale_81 (by decide) ?_
  refine lv_sipush (v := (9999 : Int32)) hx hb dX4_readSale_82 (by decide) ?_
  refine pg_Vi (As := [.int (1 : Int32), .int (9999 : Int32)]) C hH mi_X4_number vl_X4_135 (q := (RX4, TX4, 8)) (ci := 4) rfl rfl hf (fun _ e1 => (oO_sp e1).1) (fun _ _ e1 => c_X4_number e1) rfl rfl hl.1 (Nat.le_of_ble_eq_true rfl) ⟨Nat.le_of_ble_eq_true rfl, Nat.le_of_ble_eq_true rfl⟩ ⟨Nat.zero_le _, Nat.zero_le _⟩ dX4_readSale_85 (fun H locs v85 h85 hH hf => ?_)
  refine pg_sI C hH hf dX4_readSale_88 (fun H locs h88 hH hf => ?_)
  refine lv_aload_n hx hb dX4_readSale_89 rfl (lv_at hl 0 rfl) ?_
  refine lv_bipush (v := (18 : Int32)) hx hb dX4_readSale_90 (by decide) ?_
  refine pg_Vv (As := [.int (18 : Int32)]) C hH mi_X4_expect vl_X4_132 (q := (RX4, TX4, 8)) (ci := 4) rfl rfl hf (fun _ e1 => (oO_sp e1).1) (fun _ e1 => c_X4_expect e1) rfl rfl hl.1 (Nat.le_of_ble_eq_true rfl) ⟨Nat.le_of_ble_eq_true rfl, Nat.le_of_ble_eq_true rfl⟩ ⟨Nat.zero_le _, Nat.zero_le _⟩ dX4_readSale_92 (fun H locs h92 hH hf => ?_)
  refine lv_aload_n hx hb dX4_readSale_95 rfl (lv_at hl 1 rfl) ?_
  refine lv_iconst (v := (4 : Int32)) hx hb dX4_readSale_96 (by decide) ?_
  refine lv_aload_n hx hb dX4_readSale_97 rfl (lv_at hl 0 rfl) ?_
  refine lv_iconst (v := (1 : Int32)) hx hb dX4_readSale_98 (by decide) ?_
  refine lv_sipush (v := (9999 : Int32)) hx hb dX4_readSale_99 (by decide) ?_
  refine pg_Vi (As := [.int (1 : Int32), .int (9999 : Int32)]) C hH mi_X4_number vl_X4_135 (q := (RX4, TX4, 8)) (ci := 4) rfl rfl hf (fun _ e1 => (oO_sp e1).1) (fun _ _ e1 => c_X4_number e1) rfl rfl hl.1 (Nat.le_of_ble_eq_true rfl) ⟨Nat.le_of_ble_eq_true rfl, Nat.le_of_ble_eq_true rfl⟩ ⟨Nat.zero_le _, Nat.zero_le _⟩ dX4_readSale_102 (fun H locs v102 h102 hH hf => ?_)
  refine pg_sI C hH hf dX4_readSale_105 (fun H locs h105 hH hf => ?_)
  refine lv_aload_n hx hb dX4_readSale_106 rfl (lv_at hl 0 rfl) ?_
  refine lv_bipush (v := (19 : Int32)) hx hb dX4_readSale_107 (by decide) ?_
  refine pg_Vv (As := [.int (19 : Int32)]) C hH mi_X4_expect vl_X4_132 (q := (RX4, TX4, 8)) (ci := 4) rfl rfl hf (fun _ e1 => (oO_sp e1).1) (fun _ e1 => c_X4_expect e1) rfl rfl hl.1 (Nat.le_of_ble_eq_true rfl) ⟨Nat.le_of_ble_eq_true rfl, Nat.le_of_ble_eq_true rfl⟩ ⟨Nat.zero_le _, Nat.zero_le _⟩ dX4_readSale_109 (fun H locs h109 hH hf => ?_)
  refine lv_aload_n hx hb dX4_readSale_112 rfl (lv_at hl 1 rfl) ?_
  refine lv_iconst (v := (5 : Int32)) hx hb dX4_readSale_113 (by decide) ?_
  refine lv_aload_n hx hb dX4_readSale_114 rfl (lv_at hl 0 rfl) ?_
  refine lv_iconst (v := (0 : Int32)) hx hb dX4_readSale_115 (by decide) ?_
  refine lv_sipush (v := (999 : Int32)) hx hb dX4_readSale_116 (by decide) ?_
  refine pg_Vi (As := [.int (0 : Int32), .int (999 : Int32)]) C hH mi_X4_number vl_X4_135 (q := (RX4, TX4, 8)) (ci := 4) rfl rfl hf (fun _ e1 => (oO_sp e1).1) (fun _ _ e1 => c_X4_number e1) rfl rfl hl.1 (Nat.le_of_ble_eq_true rfl) ⟨Nat.le_of_ble_eq_true rfl, Nat.le_of_ble_eq_true rfl⟩ ⟨Nat.zero_le _, Nat.zero_le _⟩ dX4_readSale_119 (fun H locs v119 h119 hH hf => ?_)
  refine pg_sI C hH hf dX4_readSale_122 (fun H locs h122 hH hf => ?_)
  exact pg_vret C hr hH hf dX4_readSale_123
set_option maxHeartbeats 4000000 in
set_option maxRecDepth 100000 in
theorem c_X4_readSale {l : Launch} {g : GD} {h : PH} {a0 : Nat} {a1 : Nat} {h' : PH} (hf : mX4_readSale h a0 a1 = some h') : Met l yX4_readSale (Cond.code yX4_readSale cX4_readSale 2 (none) :: TB) (rmD 4 0 0) (PcH g [.ref (gB g + a0), .ref (gB g + a1)] h) (QcV g h') 0 0 (aB g) := by
  refine Met.ofW (cc := cX4_readSale) (maxL := 2) (ret := none) (by decide) rfl ?_
  intro p e s m args below meth c s₁ B hml hv
  obtain ⟨rfl, hH0, hkk0⟩ := hv
  have C : CT g RX4 cX4_readSale 2 (Cond.code yX4_readSale cX4_readSale 2 (none) :: TB) p s m _ meth c := pg_ct (Tw := []) B hml hH0 hkk0
  have hr := B.returns
  have hH : HS g s s.heap [] h := ⟨hH0, va_S.rf⟩
  have hl := lv_entry ([.ref (gB g + a0), .ref (gB g + a1)]) (n := 2) (Nat.le_of_ble_eq_true rfl)
  rw [lg_entry_eq]
  generalize (lg_sl ([.ref (gB g + a0), .ref (gB g + a1)]) ++ List.replicate (2 - (lg_sl ([.ref (gB g + a0), .ref (gB g + a1)])).length) Slot.unset).toArray = ls at hl ⊢
  have hl : lv_has ls 2 [(0, .ref (gB g + a0)), (1, .ref (gB g + a1))] := hl
  show W p l e (rmD 4 0 0) _ _ _ _ _ _ _ _ _ _ _ _
  unfold mX4_readSale at hf
  obtain ⟨hO, hf⟩ := oO_sp hf
  obtain ⟨⟨hx, hb, hml, hown, hts⟩, htb, hlk, hkk, hbs⟩ := id C
  refine lv_aload_n hx hb dX4_readSale_0 rfl (lv_at hl 1 rfl) ?_
  refine lv_iconst (v := (0 : Int32)) hx hb dX4_readSale_1 (by decide) ?_
  refine pg_Sv (As := [.ref (gB g + a1), .int (0 : Int32)]) C hH mi_J7_fill_53178 sl_X4_142 hf (fun _ e1 => c_J7_fill_53178 e1) rfl rfl hl.1 (Nat.le_of_ble_eq_true rfl) ⟨Nat.le_of_ble_eq_true rfl, Nat.le_of_ble_eq_true rfl⟩ ⟨Nat.zero_le _, Nat.zero_le _⟩ dX4_readSale_2 (fun H locs h2 hH hf => ?_)
  refine lv_aload_n hx hb dX4_readSale_5 rfl (lv_at hl 0 rfl) ?_
  refine lv_iconst (v := (3 : Int32)) hx hb dX4_readSale_6 (by decide) ?_
  refine pg_Vv (As := [.int (3 : Int32)]) C hH mi_X4_giveName vl_X4_114 (q := (RX4, TX4, 8)) (ci := 4) rfl rfl hf (fun _ e1 => (oO_sp e1).1) (fun _ e1 => c_X4_giveName e1) rfl rfl hl.1 (Nat.le_of_ble_eq_true rfl) ⟨Nat.le_of_ble_eq_true rfl, Nat.le_of_ble_eq_true rfl⟩ ⟨Nat.zero_le _, Nat.zero_le _⟩ dX4_readSale_7 (fun H locs h7 hH hf => ?_)
  refine lv_aload_n hx hb dX4_readSale_10 rfl (lv_at hl 0 rfl) ?_
  refine pg_gR C hH fl_X4_31 hf dX4_readSale_11 (fun v11 hf => ?_)
  refine pg_gR C hH fl_X4_148 hf dX4_readSale_14 (fun v14 hf => ?_)
  refine lv_aload_n hx hb dX4_readSale_17 rfl (lv_at hl 0 rfl) ?_
  refine pg_gR C hH fl_X4_31 hf dX4_readSale_18 (fun v18 hf => ?_)
  refine pg_gR C hH fl_X4_76 hf dX4_readSale_21 (fun v21 hf => ?_)
  refine lv_iconst (v := (3 : Int32)) hx hb dX4_readSale_24 (by decide) ?_
  refine pg_aI C hH hf dX4_readSale_25 (fun v25 hf => ?_)
  refine lv_aload_n hx hb dX4_readSale_26 rfl (lv_at hl 0 rfl) ?_
  refine pg_gR C hH fl_X4_27 hf dX4_readSale_27 (fun v27 hf => ?_)
  refine pg_gL C hH fl_X4_151 hf dX4_readSale_30 (fun v30 hf => ?_)
  refine pg_sL C hH hf dX4_readSale_33 (fun H locs h33 hH hf => ?_)
  refine lv_aload_n hx hb dX4_readSale_34 rfl (lv_at hl 1 rfl) ?_
  refine lv_iconst (v := (0 : Int32)) hx hb dX4_readSale_35 (by decide) ?_
  refine lv_aload_n hx hb dX4_readSale_36 rfl (lv_at hl 0 rfl) ?_
  refine lv_iconst (v := (1 : Int32)) hx hb dX4_readSale_37 (by decide) ?_
  refine pg_Vi (As := [.int (1 : Int32)]) C hH mi_X4_toldOf vl_X4_117 (q := (RX4, TX4, 8)) (ci := 4) rfl rfl hf (fun _ e1 => (oO_sp e1).1) (fun _ _ e1 => c_X4_toldOf e1) rfl rfl hl.1 (Nat.le_of_ble_eq_true rfl) ⟨Nat.le_of_ble_eq_true rfl, Nat.le_of_ble_eq_true rfl⟩ ⟨Nat.zero_le _, Nat.zero_le _⟩ dX4_readSale_38 (fun H locs v38 h38 hH hf => ?_)
  refine pg_sI C hH hf dX4_readSale_41 (fun H locs h41 hH hf => ?_)
  refine lv_aload_n hx hb dX4_readSale_42 rfl (lv_at hl 1 rfl) ?_
  refine lv_iconst (v := (1 : Int32)) hx hb dX4_readSale_43 (by decide) ?_
  refine lv_aload_n hx hb dX4_readSale_44 rfl (lv_at hl 0 rfl) ?_
  refine lv_iconst (v := (0 : Int32)) hx hb dX4_readSale_45 (by decide) ?_
  refine pg_Vi (As := [.int (0 : Int32)]) C hH mi_X4_toldOf vl_X4_117 (q := (RX4, TX4, 8)) (ci := 4) rfl rfl hf (fun _ e1 => (oO_sp e1).1) (fun _ _ e1 => c_X4_toldOf e1) rfl rfl hl.1 (Nat.le_of_ble_eq_true rfl) ⟨Nat.le_of_ble_eq_true rfl, Nat.le_of_ble_eq_true rfl⟩ ⟨Nat.zero_le _, Nat.zero_le _⟩ dX4_readSale_46 (fun H locs v46 h46 hH hf => ?_)
  refine pg_sI C hH hf dX4_readSale_49 (fun H locs h49 hH hf => ?_)
  refine lv_aload_n hx hb dX4_readSale_50 rfl (lv_at hl 1 rfl) ?_
  refine lv_iconst (v := (2 : Int32)) hx hb dX4_readSale_51 (by decide) ?_
  refine lv_aload_n hx hb dX4_readSale_52 rfl (lv_at hl 0 rfl) ?_
  refine lv_iconst (v := (0 : Int32)) hx hb dX4_readSale_53 (by decide) ?_
  refine pg_Vi (As := [.int (0 : Int32)]) C hH mi_X4_toldOf vl_X4_117 (q := (RX4, TX4, 8)) (ci := 4) rfl rfl hf (fun _ e1 => (oO_sp e1).1) (fun _ _ e1 => c_X4_toldOf e1) rfl rfl hl.1 (Nat.le_of_ble_eq_true rfl) ⟨Nat.le_of_ble_eq_true rfl, Nat.le_of_ble_eq_true rfl⟩ ⟨Nat.zero_le _, Nat.zero_le _⟩ dX4_readSale_54 (fun H locs v54 h54 hH hf => ?_)
  refine pg_sI C hH hf dX4_readSale_57 (fun H locs h57 hH hf => ?_)
  refine lv_aload_n hx hb dX4_readSale_58 rfl (lv_at hl 1 rfl) ?_
  refine lv_iconst (v := (1 : Int32)) hx hb dX4_readSale_59 (by decide) ?_
  refine pg_aI C hH hf dX4_readSale_60 (fun v60 hf => ?_)
  refine lv_aload_n hx hb dX4_readSale_61 rfl (lv_at hl 1 rfl) ?_
  refine lv_iconst (v := (2 : Int32)) hx hb dX4_readSale_62 (by decide) ?_
  refine pg_aI C hH hf dX4_readSale_63 (fun v63 hf => ?_)
  refine lv_icmp_ne (tgt := 72) hx hb dX4_readSale_64 (by decide) (fun cn => ?_) (fun cn => ?_)
  · have hf := (if_neg cn).symm.trans hf
    exact wX4_readSale_b72 C hr hH hf (lv_sub hl [0, 1] rfl)
  · have hf := (if_pos cn).symm.trans hf
    refine lv_aload_n hx hb dX4_readSale_67 rfl (lv_at hl 0 rfl) ?_
    refine lv_iconst (v := (4 : Int32)) hx hb dX4_readSale_68 (by decide) ?_
    refine pg_Vv (As := [.int (4 : Int32)]) C hH mi_X4_fail vl_X4_69 (q := (RX4, TX4, 8)) (ci := 4) rfl rfl hf (fun _ e1 => (oO_sp e1).1) (fun _ e1 => c_X4_fail e1) rfl rfl hl.1 (Nat.le_of_ble_eq_true rfl) ⟨Nat.le_of_ble_eq_true rfl, Nat.le_of_ble_eq_true rfl⟩ ⟨Nat.zero_le _, Nat.zero_le _⟩ dX4_readSale_69 (fun H locs h69 hH hf => ?_)
    exact wX4_readSale_b72 C hr hH hf (lv_sub hl [0, 1] rfl)
set_option maxHeartbeats 4000000 in
set_option maxRecDepth 100000 in
theorem wX4_readExtras_b60 {r4 : PH → Nat → Nat → Int32 → Int32 → Option (PH)} {h' : PH} (C : CT g RX4 cX4_readExtras 6 (Cond.code yX4_readExtras cX4_readExtras 6 (none) :: TB) p s m args meth c) (hr : meth.sig.returnType = none) (k4 : ∀ {h : PH} {a0 : Nat} {a1 : Nat} {x2 : Int32} {x3 : Int32} {H : Heap} {locs : List Loc} {ls : Array Slot}, HS g s H locs h → r4 h a0 a1 x2 x3 = some h' → lv_has ls 6 [(0, .ref (gB g + a0)), (1, .ref (gB g + a1)), (2, .int x2), (3, .int x3)] → W p l e (rmD 4 0 0) s m args below meth c H locs 0 0 (MQ below (QcV g h') args s 0 0 (aB g)) (F0 m 4 ls [])) {h : PH} {a0 : Nat} {a1 : Nat} {x2 : Int32} {x3 : Int32} {H : Heap} {locs : List Loc} {ls : Array Slot} (hH : HS g s H locs h) (hf : mX4_readExtras_b60 r4 h a0 a1 x2 x3 = some h') (hl : lv_has ls 6 [(0, .ref (gB g + a0)), (1, .ref (gB g + a1)), (2, .int x2), (3, .int x3)]) : W p l e (rmD 4 0 0) s m args below meth c H locs 0 0 (MQ below (QcV g h') args s 0 0 (aB g)) (F0 m 60 ls []) := by
  obtain ⟨⟨hx, hb, hml, hown, hts⟩, htb, hlk, hkk, hbs⟩ := id C
  unfold mX4_readExtras_b60 at hf
  refine lv_aload_n hx hb dX4_readExtras_60 rfl (lv_at hl 0 rfl) ?_
  refine lv_iconst (v := (1 : Int32)) hx hb dX4_readExtras_61 (by decide) ?_
  refine pg_Vv (As := [.int (1 : Int32)]) C hH mi_X4_fail vl_X4_69 (q := (RX4, TX4, 8)) (ci := 4) rfl rfl hf (fun _ e1 => (oO_sp e1).1) (fun _ e1 => c_X4_fail e1) rfl rfl hl.1 (Nat.le_of_ble_eq_true rfl) ⟨Nat.le_of_ble_eq_true rfl, Nat.le_of_ble_eq_true rfl⟩ ⟨Nat.zero_le _, Nat.zero_le _⟩ dX4_readExtras_62 (fun H locs h62 hH hf => ?_)
  refine lv_goto (tgt := 176) hx hb dX4_readExtras_65 (by decide) ?_
  refine lv_iinc (v := (x3 + 1)) (lv' := [(3, .int (x3 + 1)), (0, .ref (gB g + a0)), (1, .ref (gB g + a1)), (2, .int x2)]) hx hb dX4_readExtras_176 hl (k := 3) rfl rfl (by decide) rfl (fun ls hl => ?_)
  refine lv_goto (tgt := 4) hx hb dX4_readExtras_179 (by decide) ?_
  exact k4 hH hf (lv_sub hl [1, 2, 3, 0] rfl)
set_option maxHeartbeats 4000000 in
set_option maxRecDepth 100000 in
theorem wX4_readExtras_b99 {r4 : PH → Nat → Nat → Int32 → Int32 → Option (PH)} {h' : PH} (C : CT g RX4 cX4_readExtras 6 (Cond.code yX4_readExtras cX4_readExtras 6 (none) :: TB) p s m args meth c) (hr : meth.sig.returnType = none) (k4 : ∀ {h : PH} {a0 : Nat} {a1 : Nat} {x2 : Int32} {x3 : Int32} {H : Heap} {locs : List Loc} {ls : Array Slot}, HS g s H locs h → r4 h a0 a1 x2 x3 = some h' → lv_has ls 6 [(0, .ref (gB g + a0)), (1, .ref (gB g + a1)), (2, .int x2), (3, .int x3)] → W p l e (rmD 4 0 0) s m args below meth c H locs 0 0 (MQ below (QcV g h') args s 0 0 (aB g)) (F0 m 4 ls [])) {h : PH} {a0 : Nat} {a1 : Nat} {x2 : Int32} {x3 : Int32} {x5 : Int32} {H : Heap} {locs : List Loc} {ls : Array Slot} (hH : HS g s H locs h) (hf : mX4_readExtras_b99 r4 h a0 a1 x2 x3 x5 = some h') (hl : lv_has ls 6 [(0, .ref (gB g + a0)), (1, .ref (gB g + a1)), (2, .int x2), (3, .int x3), (5, .int x5)]) : W p l e (rmD 4 0 0) s m args below meth c H locs 0 0 (MQ below (QcV g h') args s 0 0 (aB g)) (F0 m 99 ls []) := by
  obtain ⟨⟨hx, hb, hml, hown, hts⟩, htb, hlk, hkk, hbs⟩ := id C
  unfold mX4_readExtras_b99 at hf
  refine lv_aload_n hx hb dX4_readExtras_99 rfl (lv_at hl 1 rfl) ?_
  refine lv_bipush (v := (11 : Int32)) hx hb dX4_readExtras_100 (by decide) ?_
  refine lv_dup2_11 hx hb dX4_readExtras_102 rfl rfl ?_
  refine pg_aI C hH hf dX4_readExtras_103 (fun v103 hf => ?_)
  refine lv_iload hx hb dX4_readExtras_104 (lv_at hl 4 rfl) ?_
  refine lv_ior hx hb dX4_readExtras_106 ?_
  refine pg_sI C hH hf dX4_readExtras_107 (fun H locs h107 hH hf => ?_)
  refine lv_goto (tgt := 176) hx hb dX4_readExtras_108 (by decide) ?_
  refine lv_iinc (v := (x3 + 1)) (lv' := [(3, .int (x3 + 1)), (0, .ref (gB g + a0)), (1, .ref (gB g + a1)), (2, .int x2), (5, .int x5)]) hx hb dX4_readExtras_176 hl (k := 3) rfl rfl (by decide) rfl (fun ls hl => ?_)
  refine lv_goto (tgt := 4) hx hb dX4_readExtras_179 (by decide) ?_
  exact k4 hH hf (lv_sub hl [1, 2, 3, 0] rfl)
set_option maxHeartbeats 4000000 in
set_option maxRecDepth 100000 in
theorem wX4_readExtras_b175 {r4 : PH → Nat → Nat → Int32 → Int32 → Option (PH)} {h' : PH} (C : CT g RX4 cX4_readExtras 6 (Cond.code yX4_readExtras cX4_readExtras 6 (none) :: TB) p s m args meth c) (hr : meth.sig.returnType = none) (k4 : ∀ {h : PH} {a0 : Nat} {a1 : Nat} {x2 : Int32} {x3 : Int32} {H : Heap} {locs : List Loc} {ls : Array Slot}, HS g s H locs h → r4 h a0 a1 x2 x3 = some h' → lv_has ls 6 [(0, .ref (gB g + a0)), (1, .ref (gB g + a1)), (2, .int x2), (3, .int x3)] → W p l e (rmD 4 0 0) s m args below meth c H locs 0 0 (MQ below (QcV g h') args s 0 0 (aB g)) (F0 m 4 ls [])) {h : PH} {a0 : Nat} {a1 : Nat} {x2 : Int32} {x3 : Int32} {s0 : Nat} {s1 : Int32} {s2 : Int32} {H : Heap} {locs : List Loc} {ls : Array Slot} (hH : HS g s H locs h) (hf : mX4_readExtras_b175 r4 h a0 a1 x2 x3 s0 s1 s2 = some h') (hl : lv_has ls 6 [(0, .ref (gB g + a0)), (1, .ref (gB g + a1)), (2, .int x2), (3, .int x3)]) : W p l e (rmD 4 0 0) s m args below meth c H locs 0 0 (MQ below (QcV g h') args s 0 0 (aB g)) (F0 m 175 ls [.int s2, .int s1, .ref (gB g + s0)]) := by
  obtain ⟨⟨hx, hb, hml, hown, hts⟩, htb, hlk, hkk, hbs⟩ := id C
  unfold mX4_readExtras_b175 at hf
  refine pg_sI C hH hf dX4_readExtras_175 (fun H locs h175 hH hf => ?_)
  refine lv_iinc (v := (x3 + 1)) (lv' := [(3, .int (x3 + 1)), (0, .ref (gB g + a0)), (1, .ref (gB g + a1)), (2, .int x2)]) hx hb dX4_readExtras_176 hl (k := 3) rfl rfl (by decide) rfl (fun ls hl => ?_)
  refine lv_goto (tgt := 4) hx hb dX4_readExtras_179 (by decide) ?_
  exact k4 hH hf (lv_sub hl [1, 2, 3, 0] rfl)
set_option maxHeartbeats 4000000 in
set_option maxRecDepth 100000 in
theorem wX4_readExtras_b172 {r4 : PH → Nat → Nat → Int32 → Int32 → Option (PH)} {h' : PH} (C : CT g RX4 cX4_readExtras 6 (Cond.code yX4_readExtras cX4_readExtras 6 (none) :: TB) p s m args meth c) (hr : meth.sig.returnType = none) (k4 : ∀ {h : PH} {a0 : Nat} {a1 : Nat} {x2 : Int32} {x3 : Int32} {H : Heap} {locs : List Loc} {ls : Array Slot}, HS g s H locs h → r4 h a0 a1 x2 x3 = some h' → lv_has ls 6 [(0, .ref (gB g + a0)), (1, .ref (gB g + a1)), (2, .int x2), (3, .int x3)] → W p l e (rmD 4 0 0) s m args below meth c H locs 0 0 (MQ below (QcV g h') args s 0 0 (aB g)) (F0 m 4 ls [])) {h : PH} {a0 : Nat} {a1 : Nat} {x2 : Int32} {x3 : Int32} {s0 : Nat} {s1 : Int32} {s2 : Nat} {s3 : Int32} {s4 : Int32} {H : Heap} {locs : List Loc} {ls : Array Slot} (hH : HS g s H locs h) (hf : mX4_readExtras_b172 r4 h a0 a1 x2 x3 s0 s1 s2 s3 s4 = some h') (hl : lv_has ls 6 [(0, .ref (gB g + a0)), (1, .ref (gB g + a1)), (2, .int x2), (3, .int x3)]) : W p l e (rmD 4 0 0) s m args below meth c H locs 0 0 (MQ below (QcV g h') args s 0 0 (aB g)) (F0 m 172 ls [.int s4, .int s3, .ref (gB g + s2), .int s1, .ref (gB g + s0)]) := by
  obtain ⟨⟨hx, hb, hml, hown, hts⟩, htb, hlk, hkk, hbs⟩ := id C
  unfold mX4_readExtras_b172 at hf
  refine pg_Vi (As := [.int s3, .int s4]) C hH mi_X4_number vl_X4_135 (q := (RX4, TX4, 8)) (ci := 4) rfl rfl hf (fun _ e1 => (oO_sp e1).1) (fun _ _ e1 => c_X4_number e1) rfl rfl hl.1 (Nat.le_of_ble_eq_true rfl) ⟨Nat.le_of_ble_eq_true rfl, Nat.le_of_ble_eq_true rfl⟩ ⟨Nat.zero_le _, Nat.zero_le _⟩ dX4_readExtras_172 (fun H locs v172 h172 hH hf => ?_)
  exact wX4_readExtras_b175 C hr k4 hH hf (lv_sub hl [0, 1, 2, 3] rfl)
set_option maxHeartbeats 4000000 in
set_option maxRecDepth 100000 in
theorem wX4_readExtras_b4 {r4 : PH → Nat → Nat → Int32 → Int32 → Option (PH)} {h' : PH} (C : CT g RX4 cX4_readExtras 6 (Cond.code yX4_readExtras cX4_readExtras 6 (none) :: TB) p s m args meth c) (hr : meth.sig.returnType = none) (k4 : ∀ {h : PH} {a0 : Nat} {a1 : Nat} {x2 : Int32} {x3 : Int32} {H : Heap} {locs : List Loc} {ls : Array Slot}, HS g s H locs h → r4 h a0 a1 x2 x3 = some h' → lv_has ls 6 [(0, .ref (gB g + a0)), (1, .ref (gB g + a1)), (2, .int x2), (3, .int x3)] → W p l e (rmD 4 0 0) s m args below meth c H locs 0 0 (MQ below (QcV g h') args s 0 0 (aB g)) (F0 m 4 ls [])) {h : PH} {a0 : Nat} {a1 : Nat} {x2 : Int32} {x3 : Int32} {H : Heap} {locs : List Loc} {ls : Array Slot} (hH : HS g s H locs h) (hf : mX4_readExtras_b4 r4 h a0 a1 x2 x3 = some h') (hl : lv_has ls 6 [(0, .ref (gB g + a0)), (1, .ref (gB g + a1)), (2, .int x2), (3, .int x3)]) : W p l e (rmD 4 0 0) s m args below meth c H locs 0 0 (MQ below (QcV g h') args s 0 0 (aB g)) (F0 m 4 ls []) := by
  obtain ⟨⟨hx, hb, hml, hown, hts⟩, htb, hlk, hkk, hbs⟩ := id C
  unfold mX4_readExtras_b4 at hf
  refine lv_iload_n hx hb dX4_readExtras_4 rfl (lv_at hl 3 rfl) ?_
  refine lv_sipush (v := (900 : Int32)) hx hb dX4_readExtras_5 (by decide) ?_
  refine lv_icmp_ge (tgt := 182) hx hb dX4_readExtras_8 (by decide) (fun cn => ?_) (fun cn => ?_)
  · have hf := (if_pos cn).symm.trans hf
    exact pg_vret C hr hH hf dX4_readExtras_182
  · have hf := (if_neg cn).symm.trans hf
    refine lv_aload_n hx hb dX4_readExtras_11 rfl (lv_at hl 0 rfl) ?_
    refine pg_gI C hH fl_X4_47 hf dX4_readExtras_12 (fun v12 hf => ?_)
    refine lv_if_ne (tgt := 182) hx hb dX4_readExtras_15 (by decide) (fun cn => ?_) (fun cn => ?_)
    · have hf := (if_neg cn).symm.trans hf
      exact pg_vret C hr hH hf dX4_readExtras_182
    · have hf := (if_pos cn).symm.trans hf
      refine lv_aload_n hx hb dX4_readExtras_18 rfl (lv_at hl 0 rfl) ?_
      refine pg_gR C hH fl_X4_27 hf dX4_readExtras_19 (fun v19 hf => ?_)
      refine pg_Vv (As := []) C hH mi_X7_next vl_X4_54 (q := (RX7, TX7, 8)) (ci := 7) rfl rfl hf (fun _ e1 => (oO_sp e1).1) (fun _ e1 => c_X7_next e1) rfl rfl hl.1 (Nat.le_of_ble_eq_true rfl) ⟨Nat.le_of_ble_eq_true rfl, Nat.le_of_ble_eq_true rfl⟩ ⟨Nat.zero_le _, Nat.zero_le _⟩ dX4_readExtras_22 (fun H locs h22 hH hf => ?_)
      refine lv_aload_n hx hb dX4_readExtras_25 rfl (lv_at hl 0 rfl) ?_
      refine pg_gR C hH fl_X4_27 hf dX4_readExtras_26 (fun v26 hf => ?_)
      refine pg_gI C hH fl_X4_60 hf dX4_readExtras_29 (fun v29 hf => ?_)
      refine lv_istore (lv' := [(4, .int v29), (0, .ref (gB g + a0)), (1, .ref (gB g + a1)), (2, .int x2), (3, .int x3)]) hx hb dX4_readExtras_32 hl (by decide) rfl (fun ls hl => ?_)
      refine lv_aload_n hx hb dX4_readExtras_34 rfl (lv_at hl 1 rfl) ?_
      refine pg_gR C hH fl_X4_27 hf dX4_readExtras_35 (fun v35 hf => ?_)
      refine pg_gI C hH fl_X4_57 hf dX4_readExtras_38 (fun v38 hf => ?_)
      refine lv_iconst (v := (3 : Int32)) hx hb dX4_readExtras_41 (by decide) ?_
      refine lv_icmp_ne (tgt := 46) hx hb dX4_readExtras_42 (by decide) (fun cn => ?_) (fun cn => ?_)
      · have hf := (if_neg cn).symm.trans hf
        refine lv_iload hx hb dX4_readExtras_46 (lv_at hl 0 rfl) ?_
        refine lv_bipush (v := (24 : Int32)) hx hb dX4_readExtras_48 (by decide) ?_
        refine lv_icmp_lt (tgt := 60) hx hb dX4_readExtras_50 (by decide) (fun cn => ?_) (fun cn => ?_)
        · have hf := (if_pos cn).symm.trans hf
          exact wX4_readExtras_b60 C hr k4 hH hf (lv_sub hl [1, 2, 3, 4] rfl)
        · have hf := (if_neg cn).symm.trans hf
          refine lv_iload hx hb dX4_readExtras_53 (lv_at hl 0 rfl) ?_
          refine lv_bipush (v := (29 : Int32)) hx hb dX4_readExtras_55 (by decide) ?_
          refine lv_icmp_le (tgt := 68) hx hb dX4_readExtras_57 (by decide) (fun cn => ?_) (fun cn => ?_)
          · have hf := (if_pos cn).symm.trans hf
            refine lv_iload hx hb dX4_readExtras_68 (lv_at hl 0 rfl) ?_
            refine lv_bipush (v := (29 : Int32)) hx hb dX4_readExtras_70 (by decide) ?_
            refine lv_icmp_ne (tgt := 111) hx hb dX4_readExtras_72 (by decide) (fun cn => ?_) (fun cn => ?_)
            · have hf := (if_neg cn).symm.trans hf
              refine lv_iload_n hx hb dX4_readExtras_111 rfl (lv_at hl 3 rfl) ?_
              refine lv_iload hx hb dX4_readExtras_112 (lv_at hl 0 rfl) ?_
              refine lv_ishr hx hb dX4_readExtras_114 ?_
              refine lv_iconst (v := (1 : Int32)) hx hb dX4_readExtras_115 (by decide) ?_
              refine lv_iand hx hb dX4_readExtras_116 ?_
              refine lv_if_eq (tgt := 128) hx hb dX4_readExtras_117 (by decide) (fun cn => ?_) (fun cn => ?_)
              · have hf := (if_pos cn).symm.trans hf
                refine lv_iload_n hx hb dX4_readExtras_128 rfl (lv_at hl 3 rfl) ?_
                refine lv_iconst (v := (1 : Int32)) hx hb dX4_readExtras_129 (by decide) ?_
                refine lv_iload hx hb dX4_readExtras_130 (lv_at hl 0 rfl) ?_
                refine lv_ishl hx hb dX4_readExtras_132 ?_
                refine lv_ior hx hb dX4_readExtras_133 ?_
                refine lv_istore_n (lv' := [(2, .int (x2 ||| ((1 : Int32) <<< (v29 &&& 31)))), (4, .int v29), (0, .ref (gB g + a0)), (1, .ref (gB g + a1)), (3, .int x3)]) hx hb dX4_readExtras_134 rfl hl (by decide) rfl (fun ls hl => ?_)
                refine lv_aload_n hx hb dX4_readExtras_135 rfl (lv_at hl 3 rfl) ?_
                refine lv_bipush (v := (6 : Int32)) hx hb dX4_readExtras_136 (by decide) ?_
                refine lv_iload hx hb dX4_readExtras_138 (lv_at hl 1 rfl) ?_
                refine lv_iadd hx hb dX4_readExtras_140 ?_
                refine lv_bipush (v := (24 : Int32)) hx hb dX4_readExtras_141 (by decide) ?_
                refine lv_isub hx hb dX4_readExtras_143 ?_
                refine lv_iload hx hb dX4_readExtras_144 (lv_at hl 1 rfl) ?_
                refine lv_bipush (v := (24 : Int32)) hx hb dX4_readExtras_146 (by decide) ?_
                refine lv_icmp_ne (tgt := 155) hx hb dX4_readExtras_148 (by decide) (fun cn => ?_) (fun cn => ?_)
                · have hf := (if_neg cn).symm.trans hf
                  refine lv_aload_n hx hb dX4_readExtras_155 rfl (lv_at hl 2 rfl) ?_
                  refine lv_iconst (v := (0 : Int32)) hx hb dX4_readExtras_156 (by decide) ?_
                  refine lv_iload hx hb dX4_readExtras_157 (lv_at hl 1 rfl) ?_
                  refine lv_bipush (v := (25 : Int32)) hx hb dX4_readExtras_159 (by decide) ?_
                  refine lv_icmp_ne (tgt := 169) hx hb dX4_readExtras_161 (by decide) (fun cn => ?_) (fun cn => ?_)
                  · have hf := (if_neg cn).symm.trans hf
                    refine lv_sipush (v := (9999 : Int32)) hx hb dX4_readExtras_169 (by decide) ?_
                    exact wX4_readExtras_b172 C hr k4 hH hf (lv_sub hl [2, 3, 0, 4] rfl)
                  · have hf := (if_pos cn).symm.trans hf
                    refine lv_bipush (v := (99 : Int32)) hx hb dX4_readExtras_164 (by decide) ?_
                    refine lv_goto (tgt := 172) hx hb dX4_readExtras_166 (by decide) ?_
                    exact wX4_readExtras_b172 C hr k4 hH hf (lv_sub hl [2, 3, 0, 4] rfl)
                · have hf := (if_pos cn).symm.trans hf
                  refine lv_iconst (v := (1 : Int32)) hx hb dX4_readExtras_151 (by decide) ?_
                  refine lv_goto (tgt := 175) hx hb dX4_readExtras_152 (by decide) ?_
                  exact wX4_readExtras_b175 C hr k4 hH hf (lv_sub hl [2, 3, 0, 4] rfl)
              · have hf := (if_neg cn).symm.trans hf
                refine lv_aload_n hx hb dX4_readExtras_120 rfl (lv_at hl 1 rfl) ?_
                refine lv_iconst (v := (2 : Int32)) hx hb dX4_readExtras_121 (by decide) ?_
                refine pg_Vv (As := [.int (2 : Int32)]) C hH mi_X4_fail vl_X4_69 (q := (RX4, TX4, 8)) (ci := 4) rfl rfl hf (fun _ e1 => (oO_sp e1).1) (fun _ e1 => c_X4_fail e1) rfl rfl hl.1 (Nat.le_of_ble_eq_true rfl) ⟨Nat.le_of_ble_eq_true rfl, Nat.le_of_ble_eq_true rfl⟩ ⟨Nat.zero_le _, Nat.zero_le _⟩ dX4_readExtras_122 (fun H locs h122 hH hf => ?_)
                refine lv_goto (tgt := 176) hx hb dX4_readExtras_125 (by decide) ?_
                refine lv_iinc (v := (x3 + 1)) (lv' := [(3, .int (x3 + 1)), (4, .int v29), (0, .ref (gB g + a0)), (1, .ref (gB g + a1)), (2, .int x2)]) hx hb dX4_readExtras_176 hl (k := 4) rfl rfl (by decide) rfl (fun ls hl => ?_)
                refine lv_goto (tgt := 4) hx hb dX4_readExtras_179 (by decide) ?_
                exact k4 hH hf (lv_sub hl [2, 3, 4, 0] rfl)
            · have hf := (if_pos cn).symm.trans hf
              refine lv_iconst (v := (1 : Int32)) hx hb dX4_readExtras_75 (by decide) ?_
              refine lv_aload_n hx hb dX4_readExtras_76 rfl (lv_at hl 1 rfl) ?_
              refine lv_iconst (v := (2 : Int32)) hx hb dX4_readExtras_77 (by decide) ?_
              refine pg_Vi (As := [.int (2 : Int32)]) C hH mi_X4_toldOf vl_X4_117 (q := (RX4, TX4, 8)) (ci := 4) rfl rfl hf (fun _ e1 => (oO_sp e1).1) (fun _ _ e1 => c_X4_toldOf e1) rfl rfl hl.1 (Nat.le_of_ble_eq_true rfl) ⟨Nat.le_of_ble_eq_true rfl, Nat.le_of_ble_eq_true rfl⟩ ⟨Nat.zero_le _, Nat.zero_le _⟩ dX4_readExtras_78 (fun H locs v78 h78 hH hf => ?_)
              refine lv_ishl hx hb dX4_readExtras_81 ?_
              refine lv_istore (lv' := [(5, .int ((1 : Int32) <<< (v78 &&& 31))), (4, .int v29), (0, .ref (gB g + a0)), (1, .ref (gB g + a1)), (2, .int x2), (3, .int x3)]) hx hb dX4_readExtras_82 hl (by decide) rfl (fun ls hl => ?_)
              refine lv_aload_n hx hb dX4_readExtras_84 rfl (lv_at hl 3 rfl) ?_
              refine lv_bipush (v := (11 : Int32)) hx hb dX4_readExtras_85 (by decide) ?_
              refine pg_aI C hH hf dX4_readExtras_87 (fun v87 hf => ?_)
              refine lv_iload hx hb dX4_readExtras_88 (lv_at hl 0 rfl) ?_
              refine lv_iand hx hb dX4_readExtras_90 ?_
              refine lv_if_eq (tgt := 99) hx hb dX4_readExtras_91 (by decide) (fun cn => ?_) (fun cn => ?_)
              · have hf := (if_pos cn).symm.trans hf
                exact wX4_readExtras_b99 C hr k4 hH hf (lv_sub hl [2, 3, 4, 5, 0] rfl)
              · have hf := (if_neg cn).symm.trans hf
                refine lv_aload_n hx hb dX4_readExtras_94 rfl (lv_at hl 2 rfl) ?_
                refine lv_iconst (v := (2 : Int32)) hx hb dX4_readExtras_95 (by decide) ?_
                refine pg_Vv (As := [.int (2 : Int32)]) C hH mi_X4_fail vl_X4_69 (q := (RX4, TX4, 8)) (ci := 4) rfl rfl hf (fun _ e1 => (oO_sp e1).1) (fun _ e1 => c_X4_fail e1) rfl rfl hl.1 (Nat.le_of_ble_eq_true rfl) ⟨Nat.le_of_ble_eq_true rfl, Nat.le_of_ble_eq_true rfl⟩ ⟨Nat.zero_le _, Nat.zero_le _⟩ dX4_readExtras_96 (fun H locs h96 hH hf => ?_)
                exact wX4_readExtras_b99 C hr k4 hH hf (lv_sub hl [2, 3, 4, 5, 0] rfl)
          · have hf := (if_neg cn).symm.trans hf
            exact wX4_readExtras_b60 C hr k4 hH hf (lv_sub hl [1, 2, 3, 4] rfl)
      · have hf := (if_pos cn).symm.trans hf
        exact pg_vret C hr hH hf dX4_readExtras_45
set_option maxHeartbeats 4000000 in
set_option maxRecDepth 100000 in
theorem wX4_readExtras_L4 {h' : PH} (C : CT g RX4 cX4_readExtras 6 (Cond.code yX4_readExtras cX4_readExtras 6 (none) :: TB) p s m args meth c) (hr : meth.sig.returnType = none) : ∀ (n : Nat) {h : PH} {a0 : Nat} {a1 : Nat} {x2 : Int32} {x3 : Int32} {H : Heap} {locs : List Loc} {ls : Array Slot}, HS g s H locs h → mX4_readExtras_L4 n h a0 a1 x2 x3 = some h' → lv_has ls 6 [(0, .ref (gB g + a0)), (1, .ref (gB g + a1)), (2, .int x2), (3, .int x3)] → W p l e (rmD 4 0 0) s m args below meth c H locs 0 0 (MQ below (QcV g h') args s 0 0 (aB g)) (F0 m 4 ls []) := by
  intro n
  induction n with
  | zero =>
    intro h a0 a1 x2 x3 H locs ls hH hf hl
    exact absurd hf (by intro z; cases z)
  | succ n ih =>
    intro h a0 a1 x2 x3 H locs ls hH hf hl
    have hf : mX4_readExtras_b4 (mX4_readExtras_L4 n) h a0 a1 x2 x3 = some h' := hf
    exact wX4_readExtras_b4 C hr (fun a b c => ih a b c) hH hf hl
set_option maxHeartbeats 4000000 in
set_option maxRecDepth 100000 in
theorem c_X4_readExtras {l : Launch} {g : GD} {h : PH} {a0 : Nat} {a1 : Nat} {h' : PH} (hf : mX4_readExtras h a0 a1 = some h') : Met l yX4_readExtras (Cond.code yX4_readExtras cX4_readExtras 6 (none) :: TB) (rmD 4 0 0) (PcH g [.ref (gB g + a0), .ref (gB g + a1)] h) (QcV g h') 0 0 (aB g) := by
  refine Met.ofW (cc := cX4_readExtras) (maxL := 6) (ret := none) (by decide) rfl ?_
  intro p e s m args below meth c s₁ B hml hv
  obtain ⟨rfl, hH0, hkk0⟩ := hv
  have C : CT g RX4 cX4_readExtras 6 (Cond.code yX4_readExtras cX4_readExtras 6 (none) :: TB) p s m _ meth c := pg_ct (Tw := []) B hml hH0 hkk0
  have hr := B.returns
  have hH : HS g s s.heap [] h := ⟨hH0, va_S.rf⟩
  have hl := lv_entry ([.ref (gB g + a0), .ref (gB g + a1)]) (n := 6) (Nat.le_of_ble_eq_true rfl)
  rw [lg_entry_eq]
  generalize (lg_sl ([.ref (gB g + a0), .ref (gB g + a1)]) ++ List.replicate (6 - (lg_sl ([.ref (gB g + a0), .ref (gB g + a1)])).length) Slot.unset).toArray = ls at hl ⊢
  have hl : lv_has ls 6 [(0, .ref (gB g + a0)), (1, .ref (gB g + a1))] := hl
  show W p l e (rmD 4 0 0) _ _ _ _ _ _ _ _ _ _ _ _
  unfold mX4_readExtras at hf
  obtain ⟨hO, hf⟩ := oO_sp hf
  obtain ⟨⟨hx, hb, hml, hown, hts⟩, htb, hlk, hkk, hbs⟩ := id C
  refine lv_iconst (v := (0 : Int32)) hx hb dX4_readExtras_0 (by decide) ?_
  refine lv_istore_n (lv' := [(2, .int (0 : Int32)), (0, .ref (gB g + a0)), (1, .ref (gB g + a1))]) hx hb dX4_readExtras_1 rfl hl (by decide) rfl (fun ls hl => ?_)
  refine lv_iconst (v := (0 : Int32)) hx hb dX4_readExtras_2 (by decide) ?_
  refine lv_istore_n (lv' := [(3, .int (0 : Int32)), (2, .int (0 : Int32)), (0, .ref (gB g + a0)), (1, .ref (gB g + a1))]) hx hb dX4_readExtras_3 rfl hl (by decide) rfl (fun ls hl => ?_)
  exact wX4_readExtras_L4 C hr FU hH hf (lv_sub hl [2, 3, 1, 0] rfl)
set_option maxHeartbeats 4000000 in
set_option maxRecDepth 100000 in
theorem c_X4_readResold {l : Launch} {g : GD} {h : PH} {a0 : Nat} {h' : PH} (hf : mX4_readResold h a0 = some h') : Met l yX4_readResold (Cond.code yX4_readResold cX4_readResold 2 (none) :: TB) (rmD 4 0 0) (PcH g [.ref (gB g + a0)] h) (QcV g h') 0 0 (aB g) := by
  refine Met.ofW (cc := cX4_readResold) (maxL := 2) (ret := none) (by decide) rfl ?_
  intro p e s m args below meth c s₁ B hml hv
  obtain ⟨rfl, hH0, hkk0⟩ := hv
  have C : CT g RX4 cX4_readResold 2 (Cond.code yX4_readResold cX4_readResold 2 (none) :: TB) p s m _ meth c := pg_ct (Tw := []) B hml hH0 hkk0
  have hr := B.returns
  have hH : HS g s s.heap [] h := ⟨hH0, va_S.rf⟩
  have hl := lv_entry ([.ref (gB g + a0)]) (n := 2) (Nat.le_of_ble_eq_true rfl)
  rw [lg_entry_eq]
  generalize (lg_sl ([.ref (gB g + a0)]) ++ List.replicate (2 - (lg_sl ([.ref (gB g + a0)])).length) Slot.unset).toArray = ls at hl ⊢
  have hl : lv_has ls 2 [(0, .ref (gB g + a0))] := hl
  show W p l e (rmD 4 0 0) _ _ _ _ _ _ _ _ _ _ _ _
  unfold mX4_readResold at hf
  obtain ⟨hO, hf⟩ := oO_sp hf
  obtain ⟨⟨hx, hb, hml, hown, hts⟩, htb, hlk, hkk, hbs⟩ := id C
  refine lv_aload_n hx hb dX4_readResold_0 rfl (lv_at hl 0 rfl) ?_
  refine pg_gR C hH fl_X4_31 hf dX4_readResold_1 (fun v1 hf => ?_)
  refine pg_gR C hH fl_X4_155 hf dX4_readResold_4 (fun v4 hf => ?_)
  refine lv_aload_n hx hb dX4_readResold_7 rfl (lv_at hl 0 rfl) ?_
  refine pg_gR C hH fl_X4_31 hf dX4_readResold_8 (fun v8 hf => ?_)
  refine pg_gR C hH fl_X4_76 hf dX4_readResold_11 (fun v11 hf => ?_)
  refine lv_iconst (v := (4 : Int32)) hx hb dX4_readResold_14 (by decide) ?_
  refine pg_aI C hH hf dX4_readResold_15 (fun v15 hf => ?_)
  refine pg_aR C hH (Or.inr rfl) hf dX4_readResold_16 (fun v16 hf => ?_)
  refine lv_astore_n (lv' := [(1, .ref (gB g + v16)), (0, .ref (gB g + a0))]) hx hb dX4_readResold_17 rfl hl (by decide) rfl (fun ls hl => ?_)
  refine lv_aload_n hx hb dX4_readResold_18 rfl (lv_at hl 0 rfl) ?_
  refine lv_iconst (v := (0 : Int32)) hx hb dX4_readResold_19 (by decide) ?_
  refine lv_aload_n hx hb dX4_readResold_20 rfl (lv_at hl 1 rfl) ?_
  refine lv_iconst (v := (1 : Int32)) hx hb dX4_readResold_21 (by decide) ?_
  refine pg_Vi (As := [.int (1 : Int32)]) C hH mi_X4_toldOf vl_X4_117 (q := (RX4, TX4, 8)) (ci := 4) rfl rfl hf (fun _ e1 => (oO_sp e1).1) (fun _ _ e1 => c_X4_toldOf e1) rfl rfl hl.1 (Nat.le_of_ble_eq_true rfl) ⟨Nat.le_of_ble_eq_true rfl, Nat.le_of_ble_eq_true rfl⟩ ⟨Nat.zero_le _, Nat.zero_le _⟩ dX4_readResold_22 (fun H locs v22 h22 hH hf => ?_)
  refine pg_sI C hH hf dX4_readResold_25 (fun H locs h25 hH hf => ?_)
  refine lv_aload_n hx hb dX4_readResold_26 rfl (lv_at hl 1 rfl) ?_
  refine lv_bipush (v := (17 : Int32)) hx hb dX4_readResold_27 (by decide) ?_
  refine pg_Vv (As := [.int (17 : Int32)]) C hH mi_X4_expect vl_X4_132 (q := (RX4, TX4, 8)) (ci := 4) rfl rfl hf (fun _ e1 => (oO_sp e1).1) (fun _ e1 => c_X4_expect e1) rfl rfl hl.1 (Nat.le_of_ble_eq_true rfl) ⟨Nat.le_of_ble_eq_true rfl, Nat.le_of_ble_eq_true rfl⟩ ⟨Nat.zero_le _, Nat.zero_le _⟩ dX4_readResold_29 (fun H locs h29 hH hf => ?_)
  refine lv_aload_n hx hb dX4_readResold_32 rfl (lv_at hl 0 rfl) ?_
  refine lv_iconst (v := (1 : Int32)) hx hb dX4_readResold_33 (by decide) ?_
  refine lv_aload_n hx hb dX4_readResold_34 rfl (lv_at hl 1 rfl) ?_
  refine lv_iconst (v := (1 : Int32)) hx hb dX4_readResold_35 (by decide) ?_
  refine lv_sipush (v := (9999 : Int32)) hx hb dX4_readResold_36 (by decide) ?_
  refine pg_Vi (As := [.int (1 : Int32), .int (9999 : Int32)]) C hH mi_X4_number vl_X4_135 (q := (RX4, TX4, 8)) (ci := 4) rfl rfl hf (fun _ e1 => (oO_sp e1).1) (fun _ _ e1 => c_X4_number e1) rfl rfl hl.1 (Nat.le_of_ble_eq_true rfl) ⟨Nat.le_of_ble_eq_true rfl, Nat.le_of_ble_eq_true rfl⟩ ⟨Nat.zero_le _, Nat.zero_le _⟩ dX4_readResold_39 (fun H locs v39 h39 hH hf => ?_)
  refine pg_sI C hH hf dX4_readResold_42 (fun H locs h42 hH hf => ?_)
  refine lv_aload_n hx hb dX4_readResold_43 rfl (lv_at hl 1 rfl) ?_
  refine lv_bipush (v := (18 : Int32)) hx hb dX4_readResold_44 (by decide) ?_
  refine pg_Vv (As := [.int (18 : Int32)]) C hH mi_X4_expect vl_X4_132 (q := (RX4, TX4, 8)) (ci := 4) rfl rfl hf (fun _ e1 => (oO_sp e1).1) (fun _ e1 => c_X4_expect e1) rfl rfl hl.1 (Nat.le_of_ble_eq_true rfl) ⟨Nat.le_of_ble_eq_true rfl, Nat.le_of_ble_eq_true rfl⟩ ⟨Nat.zero_le _, Nat.zero_le _⟩ dX4_readResold_46 (fun H locs h46 hH hf => ?_)
  refine lv_aload_n hx hb dX4_readResold_49 rfl (lv_at hl 0 rfl) ?_
  refine lv_iconst (v := (2 : Int32)) hx hb dX4_readResold_50 (by decide) ?_
  refine lv_aload_n hx hb dX4_readResold_51 rfl (lv_at hl 1 rfl) ?_
  refine lv_iconst (v := (1 : Int32)) hx hb dX4_readResold_52 (by decide) ?_
  refine lv_sipush (v := (9999 : Int32)) hx hb dX4_readResold_53 (by decide) ?_
  refine pg_Vi (As := [.int (1 : Int32), .int (9999 : Int32)]) C hH mi_X4_number vl_X4_135 (q := (RX4, TX4, 8)) (ci := 4) rfl rfl hf (fun _ e1 => (oO_sp e1).1) (fun _ _ e1 => c_X4_number e1) rfl rfl hl.1 (Nat.le_of_ble_eq_true rfl) ⟨Nat.le_of_ble_eq_true rfl, Nat.le_of_ble_eq_true rfl⟩ ⟨Nat.zero_le _, Nat.zero_le _⟩ dX4_readResold_56 (fun H locs v56 h56 hH hf => ?_)
  refine pg_sI C hH hf dX4_readResold_59 (fun H locs h59 hH hf => ?_)
  refine lv_aload_n hx hb dX4_readResold_60 rfl (lv_at hl 1 rfl) ?_
  refine lv_bipush (v := (19 : Int32)) hx hb dX4_readResold_61 (by decide) ?_
  refine pg_Vv (As := [.int (19 : Int32)]) C hH mi_X4_expect vl_X4_132 (q := (RX4, TX4, 8)) (ci := 4) rfl rfl hf (fun _ e1 => (oO_sp e1).1) (fun _ e1 => c_X4_expect e1) rfl rfl hl.1 (Nat.le_of_ble_eq_true rfl) ⟨Nat.le_of_ble_eq_true rfl, Nat.le_of_ble_eq_true rfl⟩ ⟨Nat.zero_le _, Nat.zero_le _⟩ dX4_readResold_63 (fun H locs h63 hH hf => ?_)
  refine lv_aload_n hx hb dX4_readResold_66 rfl (lv_at hl 0 rfl) ?_
  refine lv_iconst (v := (3 : Int32)) hx hb dX4_readResold_67 (by decide) ?_
  refine lv_aload_n hx hb dX4_readResold_68 rfl (lv_at hl 1 rfl) ?_
  refine lv_iconst (v := (0 : Int32)) hx hb dX4_readResold_69 (by decide) ?_
  refine lv_sipush (v := (999 : Int32)) hx hb dX4_readResold_70 (by decide) ?_
  refine pg_Vi (As := [.int (0 : Int32), .int (999 : Int32)]) C hH mi_X4_number vl_X4_135 (q := (RX4, TX4, 8)) (ci := 4) rfl rfl hf (fun _ e1 => (oO_sp e1).1) (fun _ _ e1 => c_X4_number e1) rfl rfl hl.1 (Nat.le_of_ble_eq_true rfl) ⟨Nat.le_of_ble_eq_true rfl, Nat.le_of_ble_eq_true rfl⟩ ⟨Nat.zero_le _, Nat.zero_le _⟩ dX4_readResold_73 (fun H locs v73 h73 hH hf => ?_)
  refine pg_sI C hH hf dX4_readResold_76 (fun H locs h76 hH hf => ?_)
  refine lv_aload_n hx hb dX4_readResold_77 rfl (lv_at hl 1 rfl) ?_
  refine pg_gR C hH fl_X4_31 hf dX4_readResold_78 (fun v78 hf => ?_)
  refine pg_gR C hH fl_X4_76 hf dX4_readResold_81 (fun v81 hf => ?_)
  refine lv_iconst (v := (4 : Int32)) hx hb dX4_readResold_84 (by decide) ?_
  refine lv_dup2_11 hx hb dX4_readResold_85 rfl rfl ?_
  refine pg_aI C hH hf dX4_readResold_86 (fun v86 hf => ?_)
  refine lv_iconst (v := (1 : Int32)) hx hb dX4_readResold_87 (by decide) ?_
  refine lv_iadd hx hb dX4_readResold_88 ?_
  refine pg_sI C hH hf dX4_readResold_89 (fun H locs h89 hH hf => ?_)
  exact pg_vret C hr hH hf dX4_readResold_90
set_option maxHeartbeats 4000000 in
set_option maxRecDepth 100000 in
theorem wX4_readMade_b25 {h' : PH} (C : CT g RX4 cX4_readMade 2 (Cond.code yX4_readMade cX4_readMade 2 (none) :: TB) p s m args meth c) (hr : meth.sig.returnType = none) {h : PH} {a0 : Nat} {a1 : Nat} {H : Heap} {locs : List Loc} {ls : Array Slot} (hH : HS g s H locs h) (hf : mX4_readMade_b25 h a0 a1 = some h') (hl : lv_has ls 2 [(0, .ref (gB g + a0)), (1, .ref (gB g + a1))]) : W p l e (rmD 4 0 0) s m args below meth c H locs 0 0 (MQ below (QcV g h') args s 0 0 (aB g)) (F0 m 25 ls []) := by
  obtain ⟨⟨hx, hb, hml, hown, hts⟩, htb, hlk, hkk, hbs⟩ := id C
  unfold mX4_readMade_b25 at hf
  refine lv_aload_n hx hb dX4_readMade_25 rfl (lv_at hl 0 rfl) ?_
  refine lv_bipush (v := (20 : Int32)) hx hb dX4_readMade_26 (by decide) ?_
  refine pg_Vv (As := [.int (20 : Int32)]) C hH mi_X4_expect vl_X4_132 (q := (RX4, TX4, 8)) (ci := 4) rfl rfl hf (fun _ e1 => (oO_sp e1).1) (fun _ e1 => c_X4_expect e1) rfl rfl hl.1 (Nat.le_of_ble_eq_true rfl) ⟨Nat.le_of_ble_eq_true rfl, Nat.le_of_ble_eq_true rfl⟩ ⟨Nat.zero_le _, Nat.zero_le _⟩ dX4_readMade_28 (fun H locs h28 hH hf => ?_)
  refine lv_aload_n hx hb dX4_readMade_31 rfl (lv_at hl 1 rfl) ?_
  refine lv_iconst (v := (2 : Int32)) hx hb dX4_readMade_32 (by decide) ?_
  refine lv_aload_n hx hb dX4_readMade_33 rfl (lv_at hl 0 rfl) ?_
  refine lv_iconst (v := (1 : Int32)) hx hb dX4_readMade_34 (by decide) ?_
  refine lv_sipush (v := (9999 : Int32)) hx hb dX4_readMade_35 (by decide) ?_
  refine pg_Vi (As := [.int (1 : Int32), .int (9999 : Int32)]) C hH mi_X4_number vl_X4_135 (q := (RX4, TX4, 8)) (ci := 4) rfl rfl hf (fun _ e1 => (oO_sp e1).1) (fun _ _ e1 => c_X4_number e1) rfl rfl hl.1 (Nat.le_of_ble_eq_true rfl) ⟨Nat.le_of_ble_eq_true rfl, Nat.le_of_ble_eq_true rfl⟩ ⟨Nat.zero_le _, Nat.zero_le _⟩ dX4_readMade_38 (fun H locs v38 h38 hH hf => ?_)
  refine pg_sI C hH hf dX4_readMade_41 (fun H locs h41 hH hf => ?_)
  refine lv_aload_n hx hb dX4_readMade_42 rfl (lv_at hl 0 rfl) ?_
  refine lv_bipush (v := (21 : Int32)) hx hb dX4_readMade_43 (by decide) ?_
  refine pg_Vv (As := [.int (21 : Int32)]) C hH mi_X4_expect vl_X4_132 (q := (RX4, TX4, 8)) (ci := 4) rfl rfl hf (fun _ e1 => (oO_sp e1).1) (fun _ e1 => c_X4_expect e1) rfl rfl hl.1 (Nat.le_of_ble_eq_true rfl) ⟨Nat.le_of_ble_eq_true rfl, Nat.le_of_ble_eq_true rfl⟩ ⟨Nat.zero_le _, Nat.zero_le _⟩ dX4_readMade_45 (fun H locs h45 hH hf => ?_)
  refine lv_aload_n hx hb dX4_readMade_48 rfl (lv_at hl 1 rfl) ?_
  refine lv_iconst (v := (3 : Int32)) hx hb dX4_readMade_49 (by decide) ?_
  refine lv_aload_n hx hb dX4_readMade_50 rfl (lv_at hl 0 rfl) ?_
  refine lv_iconst (v := (0 : Int32)) hx hb dX4_readMade_51 (by decide) ?_
  refine lv_bipush (v := (99 : Int32)) hx hb dX4_readMade_52 (by decide) ?_
  refine pg_Vi (As := [.int (0 : Int32), .int (99 : Int32)]) C hH mi_X4_number vl_X4_135 (q := (RX4, TX4, 8)) (ci := 4) rfl rfl hf (fun _ e1 => (oO_sp e1).1) (fun _ _ e1 => c_X4_number e1) rfl rfl hl.1 (Nat.le_of_ble_eq_true rfl) ⟨Nat.le_of_ble_eq_true rfl, Nat.le_of_ble_eq_true rfl⟩ ⟨Nat.zero_le _, Nat.zero_le _⟩ dX4_readMade_54 (fun H locs v54 h54 hH hf => ?_)
  refine pg_sI C hH hf dX4_readMade_57 (fun H locs h57 hH hf => ?_)
  exact pg_vret C hr hH hf dX4_readMade_58
set_option maxHeartbeats 4000000 in
set_option maxRecDepth 100000 in
theorem c_X4_readMade {l : Launch} {g : GD} {h : PH} {a0 : Nat} {h' : PH} (hf : mX4_readMade h a0 = some h') : Met l yX4_readMade (Cond.code yX4_readMade cX4_readMade 2 (none) :: TB) (rmD 4 0 0) (PcH g [.ref (gB g + a0)] h) (QcV g h') 0 0 (aB g) := by
  refine Met.ofW (cc := cX4_readMade) (maxL := 2) (ret := none) (by decide) rfl ?_
  intro p e s m args below meth c s₁ B hml hv
  obtain ⟨rfl, hH0, hkk0⟩ := hv
  have C : CT g RX4 cX4_readMade 2 (Cond.code yX4_readMade cX4_readMade 2 (none) :: TB) p s m _ meth c := pg_ct (Tw := []) B hml hH0 hkk0
  have hr := B.returns
  have hH : HS g s s.heap [] h := ⟨hH0, va_S.rf⟩
  have hl := lv_entry ([.ref (gB g + a0)]) (n := 2) (Nat.le_of_ble_eq_true rfl)
  rw [lg_entry_eq]
  generalize (lg_sl ([.ref (gB g + a0)]) ++ List.replicate (2 - (lg_sl ([.ref (gB g + a0)])).length) Slot.unset).toArray = ls at hl ⊢
  have hl : lv_has ls 2 [(0, .ref (gB g + a0))] := hl
  show W p l e (rmD 4 0 0) _ _ _ _ _ _ _ _ _ _ _ _
  unfold mX4_readMade at hf
  obtain ⟨hO, hf⟩ := oO_sp hf
  obtain ⟨⟨hx, hb, hml, hown, hts⟩, htb, hlk, hkk, hbs⟩ := id C
  refine lv_aload_n hx hb dX4_readMade_0 rfl (lv_at hl 0 rfl) ?_
  refine pg_gR C hH fl_X4_31 hf dX4_readMade_1 (fun v1 hf => ?_)
  refine pg_gR C hH fl_X4_129 hf dX4_readMade_4 (fun v4 hf => ?_)
  refine lv_aload_n hx hb dX4_readMade_7 rfl (lv_at hl 0 rfl) ?_
  refine lv_iconst (v := (1 : Int32)) hx hb dX4_readMade_8 (by decide) ?_
  refine pg_Vi (As := [.int (1 : Int32)]) C hH mi_X4_toldOf vl_X4_117 (q := (RX4, TX4, 8)) (ci := 4) rfl rfl hf (fun _ e1 => (oO_sp e1).1) (fun _ _ e1 => c_X4_toldOf e1) rfl rfl hl.1 (Nat.le_of_ble_eq_true rfl) ⟨Nat.le_of_ble_eq_true rfl, Nat.le_of_ble_eq_true rfl⟩ ⟨Nat.zero_le _, Nat.zero_le _⟩ dX4_readMade_9 (fun H locs v9 h9 hH hf => ?_)
  refine pg_aR C hH (Or.inr rfl) hf dX4_readMade_12 (fun v12 hf => ?_)
  refine lv_astore_n (lv' := [(1, .ref (gB g + v12)), (0, .ref (gB g + a0))]) hx hb dX4_readMade_13 rfl hl (by decide) rfl (fun ls hl => ?_)
  refine lv_aload_n hx hb dX4_readMade_14 rfl (lv_at hl 0 rfl) ?_
  refine lv_iconst (v := (2 : Int32)) hx hb dX4_readMade_15 (by decide) ?_
  refine pg_aI C hH hf dX4_readMade_16 (fun v16 hf => ?_)
  refine lv_if_eq (tgt := 25) hx hb dX4_readMade_17 (by decide) (fun cn => ?_) (fun cn => ?_)
  · have hf := (if_pos cn).symm.trans hf
    exact wX4_readMade_b25 C hr hH hf (lv_sub hl [1, 0] rfl)
  · have hf := (if_neg cn).symm.trans hf
    refine lv_aload_n hx hb dX4_readMade_20 rfl (lv_at hl 1 rfl) ?_
    refine lv_iconst (v := (2 : Int32)) hx hb dX4_readMade_21 (by decide) ?_
    refine pg_Vv (As := [.int (2 : Int32)]) C hH mi_X4_fail vl_X4_69 (q := (RX4, TX4, 8)) (ci := 4) rfl rfl hf (fun _ e1 => (oO_sp e1).1) (fun _ e1 => c_X4_fail e1) rfl rfl hl.1 (Nat.le_of_ble_eq_true rfl) ⟨Nat.le_of_ble_eq_true rfl, Nat.le_of_ble_eq_true rfl⟩ ⟨Nat.zero_le _, Nat.zero_le _⟩ dX4_readMade_22 (fun H locs h22 hH hf => ?_)
    exact wX4_readMade_b25 C hr hH hf (lv_sub hl [1, 0] rfl)
set_option maxHeartbeats 4000000 in
set_option maxRecDepth 100000 in
theorem wX4_readBand_b33 {h' : PH} (C : CT g RX4 cX4_readBand 3 (Cond.code yX4_readBand cX4_readBand 3 (none) :: TB) p s m args meth c) (hr : meth.sig.returnType = none) {h : PH} {a0 : Nat} {x1 : Int32} {s0 : Int32} {H : Heap} {locs : List Loc} {ls : Array Slot} (hH : HS g s H locs h) (hf : mX4_readBand_b33 h a0 x1 s0 = some h') (hl : lv_has ls 3 [(0, .ref (gB g + a0)), (1, .int x1)]) : W p l e (rmD 4 0 0) s m args below meth c H locs 0 0 (MQ below (QcV g h') args s 0 0 (aB g)) (F0 m 33 ls [.int s0]) := by
  obtain ⟨⟨hx, hb, hml, hown, hts⟩, htb, hlk, hkk, hbs⟩ := id C
  unfold mX4_readBand_b33 at hf
  refine lv_istore_n (lv' := [(2, .int s0), (0, .ref (gB g + a0)), (1, .int x1)]) hx hb dX4_readBand_33 rfl hl (by decide) rfl (fun ls hl => ?_)
  refine lv_aload_n hx hb dX4_readBand_34 rfl (lv_at hl 1 rfl) ?_
  refine lv_bipush (v := (22 : Int32)) hx hb dX4_readBand_35 (by decide) ?_
  refine pg_Vv (As := [.int (22 : Int32)]) C hH mi_X4_expect vl_X4_132 (q := (RX4, TX4, 8)) (ci := 4) rfl rfl hf (fun _ e1 => (oO_sp e1).1) (fun _ e1 => c_X4_expect e1) rfl rfl hl.1 (Nat.le_of_ble_eq_true rfl) ⟨Nat.le_of_ble_eq_true rfl, Nat.le_of_ble_eq_true rfl⟩ ⟨Nat.zero_le _, Nat.zero_le _⟩ dX4_readBand_37 (fun H locs h37 hH hf => ?_)
  refine lv_aload_n hx hb dX4_readBand_40 rfl (lv_at hl 1 rfl) ?_
  refine pg_gR C hH fl_X4_31 hf dX4_readBand_41 (fun v41 hf => ?_)
  refine pg_gR C hH fl_X4_158 hf dX4_readBand_44 (fun v44 hf => ?_)
  refine lv_iload_n hx hb dX4_readBand_47 rfl (lv_at hl 2 rfl) ?_
  refine pg_aR C hH (Or.inr rfl) hf dX4_readBand_48 (fun v48 hf => ?_)
  refine lv_iconst (v := (0 : Int32)) hx hb dX4_readBand_49 (by decide) ?_
  refine lv_aload_n hx hb dX4_readBand_50 rfl (lv_at hl 1 rfl) ?_
  refine lv_iload_n hx hb dX4_readBand_51 rfl (lv_at hl 0 rfl) ?_
  refine lv_sipush (v := (9999 : Int32)) hx hb dX4_readBand_52 (by decide) ?_
  refine pg_Vi (As := [.int s0, .int (9999 : Int32)]) C hH mi_X4_number vl_X4_135 (q := (RX4, TX4, 8)) (ci := 4) rfl rfl hf (fun _ e1 => (oO_sp e1).1) (fun _ _ e1 => c_X4_number e1) rfl rfl hl.1 (Nat.le_of_ble_eq_true rfl) ⟨Nat.le_of_ble_eq_true rfl, Nat.le_of_ble_eq_true rfl⟩ ⟨Nat.zero_le _, Nat.zero_le _⟩ dX4_readBand_55 (fun H locs v55 h55 hH hf => ?_)
  refine pg_sI C hH hf dX4_readBand_58 (fun H locs h58 hH hf => ?_)
  refine lv_aload_n hx hb dX4_readBand_59 rfl (lv_at hl 1 rfl) ?_
  refine lv_bipush (v := (23 : Int32)) hx hb dX4_readBand_60 (by decide) ?_
  refine pg_Vv (As := [.int (23 : Int32)]) C hH mi_X4_expect vl_X4_132 (q := (RX4, TX4, 8)) (ci := 4) rfl rfl hf (fun _ e1 => (oO_sp e1).1) (fun _ e1 => c_X4_expect e1) rfl rfl hl.1 (Nat.le_of_ble_eq_true rfl) ⟨Nat.le_of_ble_eq_true rfl, Nat.le_of_ble_eq_true rfl⟩ ⟨Nat.zero_le _, Nat.zero_le _⟩ dX4_readBand_62 (fun H locs h62 hH hf => ?_)
  refine lv_aload_n hx hb dX4_readBand_65 rfl (lv_at hl 1 rfl) ?_
  refine pg_gR C hH fl_X4_31 hf dX4_readBand_66 (fun v66 hf => ?_)
  refine pg_gR C hH fl_X4_158 hf dX4_readBand_69 (fun v69 hf => ?_)
  refine lv_iload_n hx hb dX4_readBand_72 rfl (lv_at hl 2 rfl) ?_
  refine pg_aR C hH (Or.inr rfl) hf dX4_readBand_73 (fun v73 hf => ?_)
  refine lv_iconst (v := (1 : Int32)) hx hb dX4_readBand_74 (by decide) ?_
  refine lv_aload_n hx hb dX4_readBand_75 rfl (lv_at hl 1 rfl) ?_
  refine lv_iconst (v := (0 : Int32)) hx hb dX4_readBand_76 (by decide) ?_
  refine lv_bipush (v := (90 : Int32)) hx hb dX4_readBand_77 (by decide) ?_
  refine pg_Vi (As := [.int (0 : Int32), .int (90 : Int32)]) C hH mi_X4_number vl_X4_135 (q := (RX4, TX4, 8)) (ci := 4) rfl rfl hf (fun _ e1 => (oO_sp e1).1) (fun _ _ e1 => c_X4_number e1) rfl rfl hl.1 (Nat.le_of_ble_eq_true rfl) ⟨Nat.le_of_ble_eq_true rfl, Nat.le_of_ble_eq_true rfl⟩ ⟨Nat.zero_le _, Nat.zero_le _⟩ dX4_readBand_79 (fun H locs v79 h79 hH hf => ?_)
  refine pg_sI C hH hf dX4_readBand_82 (fun H locs h82 hH hf => ?_)
  refine lv_aload_n hx hb dX4_readBand_83 rfl (lv_at hl 1 rfl) ?_
  refine pg_gR C hH fl_X4_31 hf dX4_readBand_84 (fun v84 hf => ?_)
  refine pg_gR C hH fl_X4_76 hf dX4_readBand_87 (fun v87 hf => ?_)
  refine lv_iconst (v := (5 : Int32)) hx hb dX4_readBand_90 (by decide) ?_
  refine lv_dup2_11 hx hb dX4_readBand_91 rfl rfl ?_
  refine pg_aI C hH hf dX4_readBand_92 (fun v92 hf => ?_)
  refine lv_iconst (v := (1 : Int32)) hx hb dX4_readBand_93 (by decide) ?_
  refine lv_iadd hx hb dX4_readBand_94 ?_
  refine pg_sI C hH hf dX4_readBand_95 (fun H locs h95 hH hf => ?_)
  exact pg_vret C hr hH hf dX4_readBand_96
set_option maxHeartbeats 4000000 in
set_option maxRecDepth 100000 in
theorem c_X4_readBand {l : Launch} {g : GD} {h : PH} {a0 : Nat} {h' : PH} (hf : mX4_readBand h a0 = some h') : Met l yX4_readBand (Cond.code yX4_readBand cX4_readBand 3 (none) :: TB) (rmD 4 0 0) (PcH g [.ref (gB g + a0)] h) (QcV g h') 0 0 (aB g) := by
  refine Met.ofW (cc := cX4_readBand) (maxL := 3) (ret := none) (by decide) rfl ?_
  intro p e s m args below meth c s₁ B hml hv
  obtain ⟨rfl, hH0, hkk0⟩ := hv
  have C : CT g RX4 cX4_readBand 3 (Cond.code yX4_readBand cX4_readBand 3 (none) :: TB) p s m _ meth c := pg_ct (Tw := []) B hml hH0 hkk0
  have hr := B.returns
  have hH : HS g s s.heap [] h := ⟨hH0, va_S.rf⟩
  have hl := lv_entry ([.ref (gB g + a0)]) (n := 3) (Nat.le_of_ble_eq_true rfl)
  rw [lg_entry_eq]
  generalize (lg_sl ([.ref (gB g + a0)]) ++ List.replicate (3 - (lg_sl ([.ref (gB g + a0)])).length) Slot.unset).toArray = ls at hl ⊢
  have hl : lv_has ls 3 [(0, .ref (gB g + a0))] := hl
  show W p l e (rmD 4 0 0) _ _ _ _ _ _ _ _ _ _ _ _
  unfold mX4_readBand at hf
  obtain ⟨hO, hf⟩ := oO_sp hf
  obtain ⟨⟨hx, hb, hml, hown, hts⟩, htb, hlk, hkk, hbs⟩ := id C
  refine lv_aload_n hx hb dX4_readBand_0 rfl (lv_at hl 0 rfl) ?_
  refine pg_gR C hH fl_X4_31 hf dX4_readBand_1 (fun v1 hf => ?_)
  refine pg_gR C hH fl_X4_76 hf dX4_readBand_4 (fun v4 hf => ?_)
  refine lv_iconst (v := (5 : Int32)) hx hb dX4_readBand_7 (by decide) ?_
  refine pg_aI C hH hf dX4_readBand_8 (fun v8 hf => ?_)
  refine lv_istore_n (lv' := [(1, .int v8), (0, .ref (gB g + a0))]) hx hb dX4_readBand_9 rfl hl (by decide) rfl (fun ls hl => ?_)
  refine lv_iload_n hx hb dX4_readBand_10 rfl (lv_at hl 0 rfl) ?_
  refine lv_if_ne (tgt := 18) hx hb dX4_readBand_11 (by decide) (fun cn => ?_) (fun cn => ?_)
  · have hf := (if_neg cn).symm.trans hf
    refine lv_aload_n hx hb dX4_readBand_18 rfl (lv_at hl 1 rfl) ?_
    refine pg_gR C hH fl_X4_31 hf dX4_readBand_19 (fun v19 hf => ?_)
    refine pg_gR C hH fl_X4_158 hf dX4_readBand_22 (fun v22 hf => ?_)
    refine lv_iload_n hx hb dX4_readBand_25 rfl (lv_at hl 0 rfl) ?_
    refine lv_iconst (v := (1 : Int32)) hx hb dX4_readBand_26 (by decide) ?_
    refine lv_isub hx hb dX4_readBand_27 ?_
    refine pg_aR C hH (Or.inr rfl) hf dX4_readBand_28 (fun v28 hf => ?_)
    refine lv_iconst (v := (0 : Int32)) hx hb dX4_readBand_29 (by decide) ?_
    refine pg_aI C hH hf dX4_readBand_30 (fun v30 hf => ?_)
    refine lv_iconst (v := (1 : Int32)) hx hb dX4_readBand_31 (by decide) ?_
    refine lv_iadd hx hb dX4_readBand_32 ?_
    exact wX4_readBand_b33 C hr hH hf (lv_sub hl [1, 0] rfl)
  · have hf := (if_pos cn).symm.trans hf
    refine lv_iconst (v := (2 : Int32)) hx hb dX4_readBand_14 (by decide) ?_
    refine lv_goto (tgt := 33) hx hb dX4_readBand_15 (by decide) ?_
    exact wX4_readBand_b33 C hr hH hf (lv_sub hl [1, 0] rfl)
set_option maxHeartbeats 4000000 in
set_option maxRecDepth 100000 in
theorem c_X4_readRule {l : Launch} {g : GD} {h : PH} {a0 : Nat} {x1 : Int32} {h' : PH} (hf : mX4_readRule h a0 x1 = some h') : Met l yX4_readRule (Cond.code yX4_readRule cX4_readRule 3 (none) :: TB) (rmD 4 0 0) (PcH g [.ref (gB g + a0), .int x1] h) (QcV g h') 0 0 (aB g) := by
  refine Met.ofW (cc := cX4_readRule) (maxL := 3) (ret := none) (by decide) rfl ?_
  intro p e s m args below meth c s₁ B hml hv
  obtain ⟨rfl, hH0, hkk0⟩ := hv
  have C : CT g RX4 cX4_readRule 3 (Cond.code yX4_readRule cX4_readRule 3 (none) :: TB) p s m _ meth c := pg_ct (Tw := []) B hml hH0 hkk0
  have hr := B.returns
  have hH : HS g s s.heap [] h := ⟨hH0, va_S.rf⟩
  have hl := lv_entry ([.ref (gB g + a0), .int x1]) (n := 3) (Nat.le_of_ble_eq_true rfl)
  rw [lg_entry_eq]
  generalize (lg_sl ([.ref (gB g + a0), .int x1]) ++ List.replicate (3 - (lg_sl ([.ref (gB g + a0), .int x1])).length) Slot.unset).toArray = ls at hl ⊢
  have hl : lv_has ls 3 [(0, .ref (gB g + a0)), (1, .int x1)] := hl
  show W p l e (rmD 4 0 0) _ _ _ _ _ _ _ _ _ _ _ _
  unfold mX4_readRule at hf
  obtain ⟨hO, hf⟩ := oO_sp hf
  obtain ⟨⟨hx, hb, hml, hown, hts⟩, htb, hlk, hkk, hbs⟩ := id C
  refine lv_iload_n hx hb dX4_readRule_0 rfl (lv_at hl 1 rfl) ?_
  refine lv_bipush (v := (8 : Int32)) hx hb dX4_readRule_1 (by decide) ?_
  refine lv_isub hx hb dX4_readRule_3 ?_
  refine lv_istore_n (lv' := [(2, .int (x1 - (8 : Int32))), (0, .ref (gB g + a0)), (1, .int x1)]) hx hb dX4_readRule_4 rfl hl (by decide) rfl (fun ls hl => ?_)
  refine lv_aload_n hx hb dX4_readRule_5 rfl (lv_at hl 1 rfl) ?_
  refine lv_dup hx hb dX4_readRule_6 rfl ?_
  refine pg_gI C hH fl_X4_44 hf dX4_readRule_7 (fun v7 hf => ?_)
  refine lv_iconst (v := (1 : Int32)) hx hb dX4_readRule_10 (by decide) ?_
  refine lv_iload_n hx hb dX4_readRule_11 rfl (lv_at hl 2 rfl) ?_
  refine lv_ishl hx hb dX4_readRule_12 ?_
  refine lv_ior hx hb dX4_readRule_13 ?_
  refine pg_pI C hH fl_X4_44 fm_4_6 hf dX4_readRule_14 (fun H locs h14 hH hf => ?_)
  refine lv_aload_n hx hb dX4_readRule_17 rfl (lv_at hl 1 rfl) ?_
  refine pg_gR C hH fl_X4_31 hf dX4_readRule_18 (fun v18 hf => ?_)
  refine pg_gR C hH fl_X4_76 hf dX4_readRule_21 (fun v21 hf => ?_)
  refine lv_bipush (v := (6 : Int32)) hx hb dX4_readRule_24 (by decide) ?_
  refine lv_iload_n hx hb dX4_readRule_26 rfl (lv_at hl 0 rfl) ?_
  refine lv_iadd hx hb dX4_readRule_27 ?_
  refine lv_aload_n hx hb dX4_readRule_28 rfl (lv_at hl 1 rfl) ?_
  refine pg_gsN 0 rfl (List.mem_of_getElem? (i := 1) rfl) C hH dX4_readRule_29 ?_
  refine lv_iload_n hx hb dX4_readRule_32 rfl (lv_at hl 0 rfl) ?_
  refine pg_tI C hH hf dX4_readRule_33 (fun v33 hf => ?_)
  refine pg_gsN 1 rfl (List.mem_of_getElem? (i := 2) rfl) C hH dX4_readRule_34 ?_
  refine lv_iload_n hx hb dX4_readRule_37 rfl (lv_at hl 0 rfl) ?_
  refine pg_tI C hH hf dX4_readRule_38 (fun v38 hf => ?_)
  refine pg_Vi (As := [.int v33, .int v38]) C hH mi_X4_number vl_X4_135 (q := (RX4, TX4, 8)) (ci := 4) rfl rfl hf (fun _ e1 => (oO_sp e1).1) (fun _ _ e1 => c_X4_number e1) rfl rfl hl.1 (Nat.le_of_ble_eq_true rfl) ⟨Nat.le_of_ble_eq_true rfl, Nat.le_of_ble_eq_true rfl⟩ ⟨Nat.zero_le _, Nat.zero_le _⟩ dX4_readRule_39 (fun H locs v39 h39 hH hf => ?_)
  refine pg_sI C hH hf dX4_readRule_42 (fun H locs h42 hH hf => ?_)
  exact pg_vret C hr hH hf dX4_readRule_43
set_option maxHeartbeats 4000000 in
set_option maxRecDepth 100000 in
theorem wX4_readLine_b158 {h' : PH} (C : CT g RX4 cX4_readLine 2 (Cond.code yX4_readLine cX4_readLine 2 (none) :: TB) p s m args meth c) (hr : meth.sig.returnType = none) {h : PH} {a0 : Nat} {H : Heap} {locs : List Loc} {ls : Array Slot} (hH : HS g s H locs h) (hf : mX4_readLine_b158 h a0 = some h') (hl : lv_has ls 2 [(0, .ref (gB g + a0))]) : W p l e (rmD 5 0 0) s m args below meth c H locs 0 0 (MQ below (QcV g h') args s 0 0 (aB g)) (F0 m 158 ls []) := by
  obtain ⟨⟨hx, hb, hml, hown, hts⟩, htb, hlk, hkk, hbs⟩ := id C
  unfold mX4_readLine_b158 at hf
  refine lv_aload_n hx hb dX4_readLine_158 rfl (lv_at hl 0 rfl) ?_
  refine pg_gR C hH fl_X4_27 hf dX4_readLine_159 (fun v159 hf => ?_)
  refine pg_Vv (As := []) C hH mi_X7_next vl_X4_54 (q := (RX7, TX7, 8)) (ci := 7) rfl rfl hf (fun _ e1 => (oO_sp e1).1) (fun _ e1 => c_X7_next e1) rfl rfl hl.1 (Nat.le_of_ble_eq_true rfl) ⟨Nat.le_of_ble_eq_true rfl, Nat.le_of_ble_eq_true rfl⟩ ⟨Nat.zero_le _, Nat.zero_le _⟩ dX4_readLine_162 (fun H locs h162 hH hf => ?_)
  refine lv_aload_n hx hb dX4_readLine_165 rfl (lv_at hl 0 rfl) ?_
  refine pg_gR C hH fl_X4_27 hf dX4_readLine_166 (fun v166 hf => ?_)
  refine pg_gI C hH fl_X4_57 hf dX4_readLine_169 (fun v169 hf => ?_)
  refine lv_iconst (v := (3 : Int32)) hx hb dX4_readLine_172 (by decide) ?_
  refine lv_icmp_eq (tgt := 181) hx hb dX4_readLine_173 (by decide) (fun cn => ?_) (fun cn => ?_)
  · have hf := (if_pos cn).symm.trans hf
    exact pg_vret C hr hH hf dX4_readLine_181
  · have hf := (if_neg cn).symm.trans hf
    refine lv_aload_n hx hb dX4_readLine_176 rfl (lv_at hl 0 rfl) ?_
    refine lv_iconst (v := (1 : Int32)) hx hb dX4_readLine_177 (by decide) ?_
    refine pg_Vv (As := [.int (1 : Int32)]) C hH mi_X4_fail vl_X4_69 (q := (RX4, TX4, 8)) (ci := 4) rfl rfl hf (fun _ e1 => (oO_sp e1).1) (fun _ e1 => c_X4_fail e1) rfl rfl hl.1 (Nat.le_of_ble_eq_true rfl) ⟨Nat.le_of_ble_eq_true rfl, Nat.le_of_ble_eq_true rfl⟩ ⟨Nat.zero_le _, Nat.zero_le _⟩ dX4_readLine_178 (fun H locs h178 hH hf => ?_)
    exact pg_vret C hr hH hf dX4_readLine_181
set_option maxHeartbeats 4000000 in
set_option maxRecDepth 100000 in
theorem c_X4_readLine {l : Launch} {g : GD} {h : PH} {a0 : Nat} {x1 : Int32} {h' : PH} (hf : mX4_readLine h a0 x1 = some h') : Met l yX4_readLine (Cond.code yX4_readLine cX4_readLine 2 (none) :: TB) (rmD 5 0 0) (PcH g [.ref (gB g + a0), .int x1] h) (QcV g h') 0 0 (aB g) := by
  refine Met.ofW (cc := cX4_readLine) (maxL := 2) (ret := none) (by decide) rfl ?_
  intro p e s m args below meth c s₁ B hml hv
  obtain ⟨rfl, hH0, hkk0⟩ := hv
  have C : CT g RX4 cX4_readLine 2 (Cond.code yX4_readLine cX4_readLine 2 (none) :: TB) p s m _ meth c := pg_ct (Tw := []) B hml hH0 hkk0
  have hr := B.returns
  have hH : HS g s s.heap [] h := ⟨hH0, va_S.rf⟩
  have hl := lv_entry ([.ref (gB g + a0), .int x1]) (n := 2) (Nat.le_of_ble_eq_true rfl)
  rw [lg_entry_eq]
  generalize (lg_sl ([.ref (gB g + a0), .int x1]) ++ List.replicate (2 - (lg_sl ([.ref (gB g + a0), .int x1])).length) Slot.unset).toArray = ls at hl ⊢
  have hl : lv_has ls 2 [(0, .ref (gB g + a0)), (1, .int x1)] := hl
  show W p l e (rmD 5 0 0) _ _ _ _ _ _ _ _ _ _ _ _
  unfold mX4_readLine at hf
  obtain ⟨hO, hf⟩ := oO_sp hf
  obtain ⟨⟨hx, hb, hml, hown, hts⟩, htb, hlk, hkk, hbs⟩ := id C
  refine lv_iload_n hx hb dX4_readLine_0 rfl (lv_at hl 1 rfl) ?_
  by_cases c0 : x1 = (0 : Int32)
  · have hf := (if_pos c0).symm.trans hf
    refine lv_tableIn (off := 47) (tgt := 48) hx hb dX4_readLine_1 (by rw [c0]; decide) (by rw [c0]; decide) (by rw [c0]; decide) (by decide) ?_
    refine lv_aload_n hx hb dX4_readLine_48 rfl (lv_at hl 0 rfl) ?_
    refine pg_Vv (As := []) C hH mi_X4_readParty vl_X4_79 (q := (RX4, TX4, 8)) (ci := 4) rfl rfl hf (fun _ e1 => (oO_sp e1).1) (fun _ e1 => c_X4_readParty e1) rfl rfl hl.1 (Nat.le_of_ble_eq_true rfl) ⟨Nat.le_of_ble_eq_true rfl, Nat.le_of_ble_eq_true rfl⟩ ⟨Nat.zero_le _, Nat.zero_le _⟩ dX4_readLine_49 (fun H locs h49 hH hf => ?_)
    refine lv_goto (tgt := 158) hx hb dX4_readLine_52 (by decide) ?_
    exact wX4_readLine_b158 C hr hH hf (lv_sub hl [0] rfl)
  · have hf := (if_neg c0).symm.trans hf
    by_cases c1 : x1 = (1 : Int32)
    · have hf := (if_pos c1).symm.trans hf
      refine lv_tableIn (off := 54) (tgt := 55) hx hb dX4_readLine_1 (by rw [c1]; decide) (by rw [c1]; decide) (by rw [c1]; decide) (by decide) ?_
      refine lv_aload_n hx hb dX4_readLine_55 rfl (lv_at hl 0 rfl) ?_
      refine pg_Vv (As := []) C hH mi_X4_readKin vl_X4_82 (q := (RX4, TX4, 8)) (ci := 4) rfl rfl hf (fun _ e1 => (oO_sp e1).1) (fun _ e1 => c_X4_readKin e1) rfl rfl hl.1 (Nat.le_of_ble_eq_true rfl) ⟨Nat.le_of_ble_eq_true rfl, Nat.le_of_ble_eq_true rfl⟩ ⟨Nat.zero_le _, Nat.zero_le _⟩ dX4_readLine_56 (fun H locs h56 hH hf => ?_)
      refine lv_goto (tgt := 158) hx hb dX4_readLine_59 (by decide) ?_
      exact wX4_readLine_b158 C hr hH hf (lv_sub hl [0] rfl)
    · have hf := (if_neg c1).symm.trans hf
      by_cases c2 : x1 = (2 : Int32)
      · have hf := (if_pos c2).symm.trans hf
        refine lv_tableIn (off := 61) (tgt := 62) hx hb dX4_readLine_1 (by rw [c2]; decide) (by rw [c2]; decide) (by rw [c2]; decide) (by decide) ?_
        refine lv_aload_n hx hb dX4_readLine_62 rfl (lv_at hl 0 rfl) ?_
        refine pg_Vv (As := []) C hH mi_X4_readGood vl_X4_85 (q := (RX4, TX4, 8)) (ci := 4) rfl rfl hf (fun _ e1 => (oO_sp e1).1) (fun _ e1 => c_X4_readGood e1) rfl rfl hl.1 (Nat.le_of_ble_eq_true rfl) ⟨Nat.le_of_ble_eq_true rfl, Nat.le_of_ble_eq_true rfl⟩ ⟨Nat.zero_le _, Nat.zero_le _⟩ dX4_readLine_63 (fun H locs h63 hH hf => ?_)
        refine lv_goto (tgt := 158) hx hb dX4_readLine_66 (by decide) ?_
        exact wX4_readLine_b158 C hr hH hf (lv_sub hl [0] rfl)
      · have hf := (if_neg c2).symm.trans hf
        by_cases c3 : x1 = (3 : Int32)
        · have hf := (if_pos c3).symm.trans hf
          refine lv_tableIn (off := 68) (tgt := 69) hx hb dX4_readLine_1 (by rw [c3]; decide) (by rw [c3]; decide) (by rw [c3]; decide) (by decide) ?_
          refine lv_aload_n hx hb dX4_readLine_69 rfl (lv_at hl 0 rfl) ?_
          refine pg_Vv (As := []) C hH mi_X4_readAssist vl_X4_88 (q := (RX4, TX4, 8)) (ci := 4) rfl rfl hf (fun _ e1 => (oO_sp e1).1) (fun _ e1 => c_X4_readAssist e1) rfl rfl hl.1 (Nat.le_of_ble_eq_true rfl) ⟨Nat.le_of_ble_eq_true rfl, Nat.le_of_ble_eq_true rfl⟩ ⟨Nat.zero_le _, Nat.zero_le _⟩ dX4_readLine_70 (fun H locs h70 hH hf => ?_)
          refine lv_goto (tgt := 158) hx hb dX4_readLine_73 (by decide) ?_
          exact wX4_readLine_b158 C hr hH hf (lv_sub hl [0] rfl)
        · have hf := (if_neg c3).symm.trans hf
          by_cases c4 : x1 = (4 : Int32)
          · have hf := (if_pos c4).symm.trans hf
            refine lv_tableIn (off := 75) (tgt := 76) hx hb dX4_readLine_1 (by rw [c4]; decide) (by rw [c4]; decide) (by rw [c4]; decide) (by decide) ?_
            refine lv_aload_n hx hb dX4_readLine_76 rfl (lv_at hl 0 rfl) ?_
            refine lv_aload_n hx hb dX4_readLine_77 rfl (lv_at hl 0 rfl) ?_
            refine pg_gR C hH fl_X4_31 hf dX4_readLine_78 (fun v78 hf => ?_)
            refine pg_gR C hH fl_X4_91 hf dX4_readLine_81 (fun v81 hf => ?_)
            refine lv_aload_n hx hb dX4_readLine_84 rfl (lv_at hl 0 rfl) ?_
            refine pg_gR C hH fl_X4_31 hf dX4_readLine_85 (fun v85 hf => ?_)
            refine pg_gR C hH fl_X4_76 hf dX4_readLine_88 (fun v88 hf => ?_)
            refine lv_iconst (v := (3 : Int32)) hx hb dX4_readLine_91 (by decide) ?_
            refine pg_aI C hH hf dX4_readLine_92 (fun v92 hf => ?_)
            refine pg_aR C hH (Or.inr rfl) hf dX4_readLine_93 (fun v93 hf => ?_)
            refine pg_Vv (As := [.ref (gB g + v93)]) C hH mi_X4_readSale vl_X4_95 (q := (RX4, TX4, 8)) (ci := 4) rfl rfl hf (fun _ e1 => (oO_sp e1).1) (fun _ e1 => c_X4_readSale e1) rfl rfl hl.1 (Nat.le_of_ble_eq_true rfl) ⟨Nat.le_of_ble_eq_true rfl, Nat.le_of_ble_eq_true rfl⟩ ⟨Nat.zero_le _, Nat.zero_le _⟩ dX4_readLine_94 (fun H locs h94 hH hf => ?_)
            refine lv_aload_n hx hb dX4_readLine_97 rfl (lv_at hl 0 rfl) ?_
            refine lv_aload_n hx hb dX4_readLine_98 rfl (lv_at hl 0 rfl) ?_
            refine pg_gR C hH fl_X4_31 hf dX4_readLine_99 (fun v99 hf => ?_)
            refine pg_gR C hH fl_X4_91 hf dX4_readLine_102 (fun v102 hf => ?_)
            refine lv_aload_n hx hb dX4_readLine_105 rfl (lv_at hl 0 rfl) ?_
            refine pg_gR C hH fl_X4_31 hf dX4_readLine_106 (fun v106 hf => ?_)
            refine pg_gR C hH fl_X4_76 hf dX4_readLine_109 (fun v109 hf => ?_)
            refine lv_iconst (v := (3 : Int32)) hx hb dX4_readLine_112 (by decide) ?_
            refine pg_aI C hH hf dX4_readLine_113 (fun v113 hf => ?_)
            refine pg_aR C hH (Or.inr rfl) hf dX4_readLine_114 (fun v114 hf => ?_)
            refine pg_Vv (As := [.ref (gB g + v114)]) C hH mi_X4_readExtras vl_X4_99 (q := (RX4, TX4, 8)) (ci := 4) rfl rfl hf (fun _ e1 => (oO_sp e1).1) (fun _ e1 => c_X4_readExtras e1) rfl rfl hl.1 (Nat.le_of_ble_eq_true rfl) ⟨Nat.le_of_ble_eq_true rfl, Nat.le_of_ble_eq_true rfl⟩ ⟨Nat.zero_le _, Nat.zero_le _⟩ dX4_readLine_115 (fun H locs h115 hH hf => ?_)
            refine lv_aload_n hx hb dX4_readLine_118 rfl (lv_at hl 0 rfl) ?_
            refine pg_gR C hH fl_X4_31 hf dX4_readLine_119 (fun v119 hf => ?_)
            refine pg_gR C hH fl_X4_76 hf dX4_readLine_122 (fun v122 hf => ?_)
            refine lv_iconst (v := (3 : Int32)) hx hb dX4_readLine_125 (by decide) ?_
            refine lv_dup2_11 hx hb dX4_readLine_126 rfl rfl ?_
            refine pg_aI C hH hf dX4_readLine_127 (fun v127 hf => ?_)
            refine lv_iconst (v := (1 : Int32)) hx hb dX4_readLine_128 (by decide) ?_
            refine lv_iadd hx hb dX4_readLine_129 ?_
            refine pg_sI C hH hf dX4_readLine_130 (fun H locs h130 hH hf => ?_)
            exact pg_vret C hr hH hf dX4_readLine_131
          · have hf := (if_neg c4).symm.trans hf
            by_cases c5 : x1 = (5 : Int32)
            · have hf := (if_pos c5).symm.trans hf
              refine lv_tableIn (off := 131) (tgt := 132) hx hb dX4_readLine_1 (by rw [c5]; decide) (by rw [c5]; decide) (by rw [c5]; decide) (by decide) ?_
              refine lv_aload_n hx hb dX4_readLine_132 rfl (lv_at hl 0 rfl) ?_
              refine pg_Vv (As := []) C hH mi_X4_readResold vl_X4_102 (q := (RX4, TX4, 8)) (ci := 4) rfl rfl hf (fun _ e1 => (oO_sp e1).1) (fun _ e1 => c_X4_readResold e1) rfl rfl hl.1 (Nat.le_of_ble_eq_true rfl) ⟨Nat.le_of_ble_eq_true rfl, Nat.le_of_ble_eq_true rfl⟩ ⟨Nat.zero_le _, Nat.zero_le _⟩ dX4_readLine_133 (fun H locs h133 hH hf => ?_)
              refine lv_goto (tgt := 158) hx hb dX4_readLine_136 (by decide) ?_
              exact wX4_readLine_b158 C hr hH hf (lv_sub hl [0] rfl)
            · have hf := (if_neg c5).symm.trans hf
              by_cases c6 : x1 = (6 : Int32)
              · have hf := (if_pos c6).symm.trans hf
                refine lv_tableIn (off := 138) (tgt := 139) hx hb dX4_readLine_1 (by rw [c6]; decide) (by rw [c6]; decide) (by rw [c6]; decide) (by decide) ?_
                refine lv_aload_n hx hb dX4_readLine_139 rfl (lv_at hl 0 rfl) ?_
                refine pg_Vv (As := []) C hH mi_X4_readMade vl_X4_105 (q := (RX4, TX4, 8)) (ci := 4) rfl rfl hf (fun _ e1 => (oO_sp e1).1) (fun _ e1 => c_X4_readMade e1) rfl rfl hl.1 (Nat.le_of_ble_eq_true rfl) ⟨Nat.le_of_ble_eq_true rfl, Nat.le_of_ble_eq_true rfl⟩ ⟨Nat.zero_le _, Nat.zero_le _⟩ dX4_readLine_140 (fun H locs h140 hH hf => ?_)
                refine lv_goto (tgt := 158) hx hb dX4_readLine_143 (by decide) ?_
                exact wX4_readLine_b158 C hr hH hf (lv_sub hl [0] rfl)
              · have hf := (if_neg c6).symm.trans hf
                by_cases c7 : x1 = (7 : Int32)
                · have hf := (if_pos c7).symm.trans hf
                  refine lv_tableIn (off := 145) (tgt := 146) hx hb dX4_readLine_1 (by rw [c7]; decide) (by rw [c7]; decide) (by rw [c7]; decide) (by decide) ?_
                  refine lv_aload_n hx hb dX4_readLine_146 rfl (lv_at hl 0 rfl) ?_
                  refine pg_Vv (As := []) C hH mi_X4_readBand vl_X4_108 (q := (RX4, TX4, 8)) (ci := 4) rfl rfl hf (fun _ e1 => (oO_sp e1).1) (fun _ e1 => c_X4_readBand e1) rfl rfl hl.1 (Nat.le_of_ble_eq_true rfl) ⟨Nat.le_of_ble_eq_true rfl, Nat.le_of_ble_eq_true rfl⟩ ⟨Nat.zero_le _, Nat.zero_le _⟩ dX4_readLine_147 (fun H locs h147 hH hf => ?_)
                  refine lv_goto (tgt := 158) hx hb dX4_readLine_150 (by decide) ?_
                  exact wX4_readLine_b158 C hr hH hf (lv_sub hl [0] rfl)
                · have hf := (if_neg c7).symm.trans hf
                  refine lv_tableOut (tgt := 153) hx hb dX4_readLine_1 (by have q0 := tb_n (v := 0) (by decide) c0; have q1 := tb_n (v := 1) (by decide) c1; have q2 := tb_n (v := 2) (by decide) c2; have q3 := tb_n (v := 3) (by decide) c3; have q4 := tb_n (v := 4) (by decide) c4; have q5 := tb_n (v := 5) (by decide) c5; have q6 := tb_n (v := 6) (by decide) c6; have q7 := tb_n (v := 7) (by decide) c7; omega) (by decide) ?_
                  refine lv_aload_n hx hb dX4_readLine_153 rfl (lv_at hl 0 rfl) ?_
                  refine lv_iload_n hx hb dX4_readLine_154 rfl (lv_at hl 1 rfl) ?_
                  refine pg_Vv (As := [.int x1]) C hH mi_X4_readRule vl_X4_111 (q := (RX4, TX4, 8)) (ci := 4) rfl rfl hf (fun _ e1 => (oO_sp e1).1) (fun _ e1 => c_X4_readRule e1) rfl rfl hl.1 (Nat.le_of_ble_eq_true rfl) ⟨Nat.le_of_ble_eq_true rfl, Nat.le_of_ble_eq_true rfl⟩ ⟨Nat.zero_le _, Nat.zero_le _⟩ dX4_readLine_155 (fun H locs h155 hH hf => ?_)
                  exact wX4_readLine_b158 C hr hH hf (lv_sub hl [0] rfl)
set_option maxHeartbeats 4000000 in
set_option maxRecDepth 100000 in
theorem wX4_read_b88 {r39 : PH → Nat → Int32 → Option (Int32 × PH)} {r : Int32} {h' : PH} (C : CT g RX4 cX4_read 4 (Cond.code yX4_read cX4_read 4 (some .int) :: TB) p s m args meth c) (hr : meth.sig.returnType = some .int) (k39 : ∀ {h : PH} {a0 : Nat} {x2 : Int32} {H : Heap} {locs : List Loc} {ls : Array Slot}, HS g s H locs h → r39 h a0 x2 = some (r, h') → lv_has ls 4 [(0, .ref (gB g + a0)), (2, .int x2)] → W p l e (rmD 6 0 0) s m args below meth c H locs 0 0 (MQ below (QcI g r h') args s 0 0 (aB g)) (F0 m 39 ls [])) {h : PH} {a0 : Nat} {x2 : Int32} {H : Heap} {locs : List Loc} {ls : Array Slot} (hH : HS g s H locs h) (hf : mX4_read_b88 r39 h a0 x2 = some (r, h')) (hl : lv_has ls 4 [(0, .ref (gB g + a0)), (2, .int x2)]) : W p l e (rmD 6 0 0) s m args below meth c H locs 0 0 (MQ below (QcI g r h') args s 0 0 (aB g)) (F0 m 88 ls []) := by
  obtain ⟨⟨hx, hb, hml, hown, hts⟩, htb, hlk, hkk, hbs⟩ := id C
  unfold mX4_read_b88 at hf
  refine lv_iinc (v := (x2 + 1)) (lv' := [(2, .int (x2 + 1)), (0, .ref (gB g + a0))]) hx hb dX4_read_88 hl (k := 1) rfl rfl (by decide) rfl (fun ls hl => ?_)
  refine lv_aload_n hx hb dX4_read_91 rfl (lv_at hl 1 rfl) ?_
  refine pg_gR C hH fl_X4_27 hf dX4_read_92 (fun v92 hf => ?_)
  refine pg_Vv (As := []) C hH mi_X7_next vl_X4_54 (q := (RX7, TX7, 8)) (ci := 7) rfl rfl hf (fun _ e1 => (oO_sp e1).1) (fun _ e1 => c_X7_next e1) rfl rfl hl.1 (Nat.le_of_ble_eq_true rfl) ⟨Nat.le_of_ble_eq_true rfl, Nat.le_of_ble_eq_true rfl⟩ ⟨Nat.zero_le _, Nat.zero_le _⟩ dX4_read_95 (fun H locs h95 hH hf => ?_)
  refine lv_goto (tgt := 39) hx hb dX4_read_98 (by decide) ?_
  exact k39 hH hf (lv_sub hl [1, 0] rfl)
set_option maxHeartbeats 4000000 in
set_option maxRecDepth 100000 in
theorem wX4_read_b101 {r : Int32} {h' : PH} (C : CT g RX4 cX4_read 4 (Cond.code yX4_read cX4_read 4 (some .int) :: TB) p s m args meth c) (hr : meth.sig.returnType = some .int) {h : PH} {a0 : Nat} {x2 : Int32} {H : Heap} {locs : List Loc} {ls : Array Slot} (hH : HS g s H locs h) (hf : mX4_read_b101 h a0 x2 = some (r, h')) (hl : lv_has ls 4 [(0, .ref (gB g + a0)), (2, .int x2)]) : W p l e (rmD 6 0 0) s m args below meth c H locs 0 0 (MQ below (QcI g r h') args s 0 0 (aB g)) (F0 m 101 ls []) := by
  obtain ⟨⟨hx, hb, hml, hown, hts⟩, htb, hlk, hkk, hbs⟩ := id C
  unfold mX4_read_b101 at hf
  refine lv_aload_n hx hb dX4_read_101 rfl (lv_at hl 0 rfl) ?_
  refine pg_gI C hH fl_X4_47 hf dX4_read_102 (fun v102 hf => ?_)
  refine lv_if_ne (tgt := 112) hx hb dX4_read_105 (by decide) (fun cn => ?_) (fun cn => ?_)
  · have hf := (if_neg cn).symm.trans hf
    refine lv_bipush (v := (-2 : Int32)) hx hb dX4_read_112 (by decide) ?_
    refine lv_aload_n hx hb dX4_read_114 rfl (lv_at hl 0 rfl) ?_
    refine pg_gI C hH fl_X4_47 hf dX4_read_115 (fun v115 hf => ?_)
    refine lv_isub hx hb dX4_read_118 ?_
    exact pg_iret C hr hH hf dX4_read_119
  · have hf := (if_pos cn).symm.trans hf
    refine lv_iload_n hx hb dX4_read_108 rfl (lv_at hl 1 rfl) ?_
    refine lv_goto (tgt := 119) hx hb dX4_read_109 (by decide) ?_
    exact pg_iret C hr hH hf dX4_read_119
set_option maxHeartbeats 4000000 in
set_option maxRecDepth 100000 in
theorem wX4_read_b39 {r39 : PH → Nat → Int32 → Option (Int32 × PH)} {r : Int32} {h' : PH} (C : CT g RX4 cX4_read 4 (Cond.code yX4_read cX4_read 4 (some .int) :: TB) p s m args meth c) (hr : meth.sig.returnType = some .int) (k39 : ∀ {h : PH} {a0 : Nat} {x2 : Int32} {H : Heap} {locs : List Loc} {ls : Array Slot}, HS g s H locs h → r39 h a0 x2 = some (r, h') → lv_has ls 4 [(0, .ref (gB g + a0)), (2, .int x2)] → W p l e (rmD 6 0 0) s m args below meth c H locs 0 0 (MQ below (QcI g r h') args s 0 0 (aB g)) (F0 m 39 ls [])) {h : PH} {a0 : Nat} {x2 : Int32} {H : Heap} {locs : List Loc} {ls : Array Slot} (hH : HS g s H locs h) (hf : mX4_read_b39 r39 h a0 x2 = some (r, h')) (hl : lv_has ls 4 [(0, .ref (gB g + a0)), (2, .int x2)]) : W p l e (rmD 6 0 0) s m args below meth c H locs 0 0 (MQ below (QcI g r h') args s 0 0 (aB g)) (F0 m 39 ls []) := by
  obtain ⟨⟨hx, hb, hml, hown, hts⟩, htb, hlk, hkk, hbs⟩ := id C
  unfold mX4_read_b39 at hf
  refine lv_aload_n hx hb dX4_read_39 rfl (lv_at hl 0 rfl) ?_
  refine pg_gI C hH fl_X4_47 hf dX4_read_40 (fun v40 hf => ?_)
  refine lv_if_ne (tgt := 101) hx hb dX4_read_43 (by decide) (fun cn => ?_) (fun cn => ?_)
  · have hf := (if_neg cn).symm.trans hf
    exact wX4_read_b101 C hr hH hf (lv_sub hl [0, 1] rfl)
  · have hf := (if_pos cn).symm.trans hf
    refine lv_aload_n hx hb dX4_read_46 rfl (lv_at hl 0 rfl) ?_
    refine pg_gR C hH fl_X4_27 hf dX4_read_47 (fun v47 hf => ?_)
    refine pg_gI C hH fl_X4_57 hf dX4_read_50 (fun v50 hf => ?_)
    refine lv_if_eq (tgt := 101) hx hb dX4_read_53 (by decide) (fun cn => ?_) (fun cn => ?_)
    · have hf := (if_pos cn).symm.trans hf
      exact wX4_read_b101 C hr hH hf (lv_sub hl [0, 1] rfl)
    · have hf := (if_neg cn).symm.trans hf
      refine lv_iload_n hx hb dX4_read_56 rfl (lv_at hl 1 rfl) ?_
      refine lv_sipush (v := (900 : Int32)) hx hb dX4_read_57 (by decide) ?_
      refine lv_icmp_ge (tgt := 101) hx hb dX4_read_60 (by decide) (fun cn => ?_) (fun cn => ?_)
      · have hf := (if_pos cn).symm.trans hf
        exact wX4_read_b101 C hr hH hf (lv_sub hl [0, 1] rfl)
      · have hf := (if_neg cn).symm.trans hf
        refine lv_aload_n hx hb dX4_read_63 rfl (lv_at hl 0 rfl) ?_
        refine pg_gR C hH fl_X4_27 hf dX4_read_64 (fun v64 hf => ?_)
        refine pg_gI C hH fl_X4_60 hf dX4_read_67 (fun v67 hf => ?_)
        refine lv_istore_n (lv' := [(3, .int v67), (0, .ref (gB g + a0)), (2, .int x2)]) hx hb dX4_read_70 rfl hl (by decide) rfl (fun ls hl => ?_)
        refine lv_aload_n hx hb dX4_read_71 rfl (lv_at hl 1 rfl) ?_
        refine lv_iload_n hx hb dX4_read_72 rfl (lv_at hl 0 rfl) ?_
        refine pg_Vv (As := [.int v67]) C hH mi_X4_checkStart vl_X4_63 (q := (RX4, TX4, 8)) (ci := 4) rfl rfl hf (fun _ e1 => (oO_sp e1).1) (fun _ e1 => c_X4_checkStart e1) rfl rfl hl.1 (Nat.le_of_ble_eq_true rfl) ⟨Nat.le_of_ble_eq_true rfl, Nat.le_of_ble_eq_true rfl⟩ ⟨Nat.zero_le _, Nat.zero_le _⟩ dX4_read_73 (fun H locs h73 hH hf => ?_)
        refine lv_aload_n hx hb dX4_read_76 rfl (lv_at hl 1 rfl) ?_
        refine pg_gI C hH fl_X4_47 hf dX4_read_77 (fun v77 hf => ?_)
        refine lv_if_ne (tgt := 88) hx hb dX4_read_80 (by decide) (fun cn => ?_) (fun cn => ?_)
        · have hf := (if_neg cn).symm.trans hf
          exact wX4_read_b88 C hr k39 hH hf (lv_sub hl [1, 2] rfl)
        · have hf := (if_pos cn).symm.trans hf
          refine lv_aload_n hx hb dX4_read_83 rfl (lv_at hl 1 rfl) ?_
          refine lv_iload_n hx hb dX4_read_84 rfl (lv_at hl 0 rfl) ?_
          refine pg_Vv (As := [.int v67]) C hH mi_X4_readLine vl_X4_66 (q := (RX4, TX4, 8)) (ci := 4) rfl rfl hf (fun _ e1 => (oO_sp e1).1) (fun _ e1 => c_X4_readLine e1) rfl rfl hl.1 (Nat.le_of_ble_eq_true rfl) ⟨Nat.le_of_ble_eq_true rfl, Nat.le_of_ble_eq_true rfl⟩ ⟨Nat.zero_le _, Nat.zero_le _⟩ dX4_read_85 (fun H locs h85 hH hf => ?_)
          exact wX4_read_b88 C hr k39 hH hf (lv_sub hl [1, 2] rfl)
set_option maxHeartbeats 4000000 in
set_option maxRecDepth 100000 in
theorem wX4_read_L39 {r : Int32} {h' : PH} (C : CT g RX4 cX4_read 4 (Cond.code yX4_read cX4_read 4 (some .int) :: TB) p s m args meth c) (hr : meth.sig.returnType = some .int) : ∀ (n : Nat) {h : PH} {a0 : Nat} {x2 : Int32} {H : Heap} {locs : List Loc} {ls : Array Slot}, HS g s H locs h → mX4_read_L39 n h a0 x2 = some (r, h') → lv_has ls 4 [(0, .ref (gB g + a0)), (2, .int x2)] → W p l e (rmD 6 0 0) s m args below meth c H locs 0 0 (MQ below (QcI g r h') args s 0 0 (aB g)) (F0 m 39 ls []) := by
  intro n
  induction n with
  | zero =>
    intro h a0 x2 H locs ls hH hf hl
    exact absurd hf (by intro z; cases z)
  | succ n ih =>
    intro h a0 x2 H locs ls hH hf hl
    have hf : mX4_read_b39 (mX4_read_L39 n) h a0 x2 = some (r, h') := hf
    exact wX4_read_b39 C hr (fun a b c => ih a b c) hH hf hl
set_option maxHeartbeats 4000000 in
set_option maxRecDepth 100000 in
theorem c_X4_read {l : Launch} {g : GD} {h : PH} {a0 : Nat} {x1 : Int32} {r : Int32} {h' : PH} (hf : mX4_read h a0 x1 = some (r, h')) : Met l yX4_read (Cond.code yX4_read cX4_read 4 (some .int) :: TB) (rmD 6 0 0) (PcH g [.ref (gB g + a0), .int x1] h) (QcI g r h') 0 0 (aB g) := by
  refine Met.ofW (cc := cX4_read) (maxL := 4) (ret := some .int) (by decide) rfl ?_
  intro p e s m args below meth c s₁ B hml hv
  obtain ⟨rfl, hH0, hkk0⟩ := hv
  have C : CT g RX4 cX4_read 4 (Cond.code yX4_read cX4_read 4 (some .int) :: TB) p s m _ meth c := pg_ct (Tw := []) B hml hH0 hkk0
  have hr := B.returns
  have hH : HS g s s.heap [] h := ⟨hH0, va_S.rf⟩
  have hl := lv_entry ([.ref (gB g + a0), .int x1]) (n := 4) (Nat.le_of_ble_eq_true rfl)
  rw [lg_entry_eq]
  generalize (lg_sl ([.ref (gB g + a0), .int x1]) ++ List.replicate (4 - (lg_sl ([.ref (gB g + a0), .int x1])).length) Slot.unset).toArray = ls at hl ⊢
  have hl : lv_has ls 4 [(0, .ref (gB g + a0)), (1, .int x1)] := hl
  show W p l e (rmD 6 0 0) _ _ _ _ _ _ _ _ _ _ _ _
  unfold mX4_read at hf
  obtain ⟨hO, hf⟩ := oO_sp hf
  obtain ⟨⟨hx, hb, hml, hown, hts⟩, htb, hlk, hkk, hbs⟩ := id C
  refine lv_aload_n hx hb dX4_read_0 rfl (lv_at hl 0 rfl) ?_
  refine pg_gR C hH fl_X4_31 hf dX4_read_1 (fun v1 hf => ?_)
  refine pg_Vv (As := []) C hH mi_X8_clear vl_X4_35 (q := (RX8, TX8, 8)) (ci := 8) rfl rfl hf (fun _ e1 => (oO_sp e1).1) (fun _ e1 => c_X8_clear e1) rfl rfl hl.1 (Nat.le_of_ble_eq_true rfl) ⟨Nat.le_of_ble_eq_true rfl, Nat.le_of_ble_eq_true rfl⟩ ⟨Nat.zero_le _, Nat.zero_le _⟩ dX4_read_4 (fun H locs h4 hH hf => ?_)
  refine lv_aload_n hx hb dX4_read_7 rfl (lv_at hl 0 rfl) ?_
  refine lv_iconst (v := (0 : Int32)) hx hb dX4_read_8 (by decide) ?_
  refine pg_pI C hH fl_X4_40 fm_4_5 hf dX4_read_9 (fun H locs h9 hH hf => ?_)
  refine lv_aload_n hx hb dX4_read_12 rfl (lv_at hl 0 rfl) ?_
  refine lv_iconst (v := (0 : Int32)) hx hb dX4_read_13 (by decide) ?_
  refine pg_pI C hH fl_X4_44 fm_4_6 hf dX4_read_14 (fun H locs h14 hH hf => ?_)
  refine lv_aload_n hx hb dX4_read_17 rfl (lv_at hl 0 rfl) ?_
  refine lv_iconst (v := (0 : Int32)) hx hb dX4_read_18 (by decide) ?_
  refine pg_pI C hH fl_X4_47 fm_4_7 hf dX4_read_19 (fun H locs h19 hH hf => ?_)
  refine lv_iconst (v := (0 : Int32)) hx hb dX4_read_22 (by decide) ?_
  refine lv_istore_n (lv' := [(2, .int (0 : Int32)), (0, .ref (gB g + a0)), (1, .int x1)]) hx hb dX4_read_23 rfl hl (by decide) rfl (fun ls hl => ?_)
  refine lv_aload_n hx hb dX4_read_24 rfl (lv_at hl 1 rfl) ?_
  refine pg_gR C hH fl_X4_27 hf dX4_read_25 (fun v25 hf => ?_)
  refine lv_iload_n hx hb dX4_read_28 rfl (lv_at hl 2 rfl) ?_
  refine pg_Vv (As := [.int x1]) C hH mi_X7_start vl_X4_50 (q := (RX7, TX7, 8)) (ci := 7) rfl rfl hf (fun _ e1 => (oO_sp e1).1) (fun _ e1 => c_X7_start e1) rfl rfl hl.1 (Nat.le_of_ble_eq_true rfl) ⟨Nat.le_of_ble_eq_true rfl, Nat.le_of_ble_eq_true rfl⟩ ⟨Nat.zero_le _, Nat.zero_le _⟩ dX4_read_29 (fun H locs h29 hH hf => ?_)
  refine lv_aload_n hx hb dX4_read_32 rfl (lv_at hl 1 rfl) ?_
  refine pg_gR C hH fl_X4_27 hf dX4_read_33 (fun v33 hf => ?_)
  refine pg_Vv (As := []) C hH mi_X7_next vl_X4_54 (q := (RX7, TX7, 8)) (ci := 7) rfl rfl hf (fun _ e1 => (oO_sp e1).1) (fun _ e1 => c_X7_next e1) rfl rfl hl.1 (Nat.le_of_ble_eq_true rfl) ⟨Nat.le_of_ble_eq_true rfl, Nat.le_of_ble_eq_true rfl⟩ ⟨Nat.zero_le _, Nat.zero_le _⟩ dX4_read_36 (fun H locs h36 hH hf => ?_)
  exact wX4_read_L39 C hr FU hH hf (lv_sub hl [1, 0] rfl)
set_option maxHeartbeats 4000000 in
set_option maxRecDepth 100000 in
theorem c_X5_init {l : Launch} {g : GD} {h : PH} {a0 : Nat} {a1 : Nat} {a2 : Nat} {h' : PH} (hf : mX5_init h a0 a1 a2 = some h') : Met l yX5_init (Cond.code yX5_init cX5_init 3 (none) :: TB) (rmD 1 2 22) (PcH g [.ref (gB g + a0), .ref (gB g + a1), .ref (gB g + a2)] h) (QcV g h') 2 22 (aB g) := by
  refine Met.ofW (cc := cX5_init) (maxL := 3) (ret := none) (by decide) rfl ?_
  intro p e s m args below meth c s₁ B hml hv
  obtain ⟨rfl, hH0, hkk0⟩ := hv
  have C : CT g RX5 cX5_init 3 (Cond.code yX5_init cX5_init 3 (none) :: TB) p s m _ meth c := pg_ct (Tw := []) B hml hH0 hkk0
  have hr := B.returns
  have hH : HS g s s.heap [] h := ⟨hH0, va_S.rf⟩
  have hl := lv_entry ([.ref (gB g + a0), .ref (gB g + a1), .ref (gB g + a2)]) (n := 3) (Nat.le_of_ble_eq_true rfl)
  rw [lg_entry_eq]
  generalize (lg_sl ([.ref (gB g + a0), .ref (gB g + a1), .ref (gB g + a2)]) ++ List.replicate (3 - (lg_sl ([.ref (gB g + a0), .ref (gB g + a1), .ref (gB g + a2)])).length) Slot.unset).toArray = ls at hl ⊢
  have hl : lv_has ls 3 [(0, .ref (gB g + a0)), (1, .ref (gB g + a1)), (2, .ref (gB g + a2))] := hl
  show W p l e (rmD 1 2 22) _ _ _ _ _ _ _ _ _ _ _ _
  unfold mX5_init at hf
  obtain ⟨hO, hf⟩ := oO_sp hf
  have hin : meth.name = "<init>" := (name_of_methodNamed B.named B.method).1
  obtain ⟨⟨hx, hb, hml, hown, hts⟩, htb, hlk, hkk, hbs⟩ := id C
  refine lv_aload_n hx hb dX5_init_0 rfl (lv_at hl 0 rfl) ?_
  refine pg_obj C oi_X5_3 hl.1 (Nat.le_of_ble_eq_true rfl) (Nat.le_of_ble_eq_true rfl) dX5_init_1 ?_
  refine lv_aload_n hx hb dX5_init_4 rfl (lv_at hl 0 rfl) ?_
  refine lv_bipush (v := (11 : Int32)) hx hb dX5_init_5 (by decide) ?_
  refine pg_newI (N' := 11) C hH ar_I hf (by decide) (by decide) (Nat.le_of_ble_eq_true rfl) (Nat.le_of_ble_eq_true rfl) (Nat.le_of_ble_eq_true rfl) dX5_init_7 (fun H n7_0 h7_0 hH hf => ?_)
  refine W.widen (k := 1) (n := 11) (Nat.le_of_ble_eq_true rfl) (Nat.le_of_ble_eq_true rfl) ?_
  refine pg_pR C hin hH fl_X5_9 ff_5_2 rfl rfl hf dX5_init_9 (fun H locs h9_1 hH hf => ?_)
  refine lv_aload_n hx hb dX5_init_12 rfl (lv_at hl 0 rfl) ?_
  refine lv_bipush (v := (11 : Int32)) hx hb dX5_init_13 (by decide) ?_
  refine pg_newI (N' := 11) C hH ar_I hf (by decide) (by decide) (Nat.le_of_ble_eq_true rfl) (Nat.le_of_ble_eq_true rfl) (Nat.le_of_ble_eq_true rfl) dX5_init_15 (fun H n15_2 h15_2 hH hf => ?_)
  refine W.widen (k := 2) (n := 22) (Nat.le_of_ble_eq_true rfl) (Nat.le_of_ble_eq_true rfl) ?_
  refine pg_pR C hin hH fl_X5_15 ff_5_3 rfl rfl hf dX5_init_17 (fun H locs h17_3 hH hf => ?_)
  refine lv_aload_n hx hb dX5_init_20 rfl (lv_at hl 0 rfl) ?_
  refine lv_aload_n hx hb dX5_init_21 rfl (lv_at hl 1 rfl) ?_
  refine pg_pR C hin hH fl_X5_18 ff_5_0 rfl rfl hf dX5_init_22 (fun H locs h22_4 hH hf => ?_)
  refine lv_aload_n hx hb dX5_init_25 rfl (lv_at hl 0 rfl) ?_
  refine lv_aload_n hx hb dX5_init_26 rfl (lv_at hl 2 rfl) ?_
  refine pg_pR C hin hH fl_X5_22 ff_5_1 rfl rfl hf dX5_init_27 (fun H locs h27_5 hH hf => ?_)
  exact pg_vret C hr hH hf dX5_init_30
set_option maxHeartbeats 4000000 in
set_option maxRecDepth 100000 in
theorem wX5_pricesBelow_b42 {r42 : PH → Nat → Int32 → Int64 → Int64 → Int32 → Int32 → Int32 → Option (Int32 × PH)} {r : Int32} {h' : PH} (C : CT g RX5 cX5_pricesBelow 10 (Cond.code yX5_pricesBelow cX5_pricesBelow 10 (some .int) :: TB) p s m args meth c) (hr : meth.sig.returnType = some .int) (k42 : ∀ {h : PH} {a0 : Nat} {x1 : Int32} {x2 : Int64} {x4 : Int64} {x6 : Int32} {x7 : Int32} {x8 : Int32} {H : Heap} {locs : List Loc} {ls : Array Slot}, HS g s H locs h → r42 h a0 x1 x2 x4 x6 x7 x8 = some (r, h') → lv_has ls 10 [(0, .ref (gB g + a0)), (1, .int x1), (2, .long x2), (4, .long x4), (6, .int x6), (7, .int x7), (8, .int x8)] → W p l e (rmD 1 0 0) s m args below meth c H locs 0 0 (MQ below (QcI g r h') args s 0 0 (aB g)) (F0 m 42 ls [])) {h : PH} {a0 : Nat} {x1 : Int32} {x2 : Int64} {x4 : Int64} {x6 : Int32} {x7 : Int32} {x8 : Int32} {H : Heap} {locs : List Loc} {ls : Array Slot} (hH : HS g s H locs h) (hf : mX5_pricesBelow_b42 r42 h a0 x1 x2 x4 x6 x7 x8 = some (r, h')) (hl : lv_has ls 10 [(0, .ref (gB g + a0)), (1, .int x1), (2, .long x2), (4, .long x4), (6, .int x6), (7, .int x7), (8, .int x8)]) : W p l e (rmD 1 0 0) s m args below meth c H locs 0 0 (MQ below (QcI g r h') args s 0 0 (aB g)) (F0 m 42 ls []) := by
  obtain ⟨⟨hx, hb, hml, hown, hts⟩, htb, hlk, hkk, hbs⟩ := id C
  unfold mX5_pricesBelow_b42 at hf
  refine lv_iload hx hb dX5_pricesBelow_42 (lv_at hl 6 rfl) ?_
  refine lv_sipush (v := (9999 : Int32)) hx hb dX5_pricesBelow_44 (by decide) ?_
  refine lv_icmp_ge (tgt := 103) hx hb dX5_pricesBelow_47 (by decide) (fun cn => ?_) (fun cn => ?_)
  · have hf := (if_pos cn).symm.trans hf
    refine lv_iload hx hb dX5_pricesBelow_103 (lv_at hl 4 rfl) ?_
    exact pg_iret C hr hH hf dX5_pricesBelow_105
  · have hf := (if_neg cn).symm.trans hf
    refine lv_iload hx hb dX5_pricesBelow_50 (lv_at hl 5 rfl) ?_
    refine lv_iload hx hb dX5_pricesBelow_52 (lv_at hl 4 rfl) ?_
    refine lv_isub hx hb dX5_pricesBelow_54 ?_
    refine lv_iconst (v := (1 : Int32)) hx hb dX5_pricesBelow_55 (by decide) ?_
    refine lv_icmp_le (tgt := 103) hx hb dX5_pricesBelow_56 (by decide) (fun cn => ?_) (fun cn => ?_)
    · have hf := (if_pos cn).symm.trans hf
      refine lv_iload hx hb dX5_pricesBelow_103 (lv_at hl 4 rfl) ?_
      exact pg_iret C hr hH hf dX5_pricesBelow_105
    · have hf := (if_neg cn).symm.trans hf
      refine lv_iload hx hb dX5_pricesBelow_59 (lv_at hl 4 rfl) ?_
      refine lv_iload hx hb dX5_pricesBelow_61 (lv_at hl 5 rfl) ?_
      refine lv_iadd hx hb dX5_pricesBelow_63 ?_
      refine lv_iconst (v := (2 : Int32)) hx hb dX5_pricesBelow_64 (by decide) ?_
      refine lv_idiv hx hb dX5_pricesBelow_65 (by decide) ?_
      refine lv_istore (lv' := [(9, .int ((x6 + x7) / (2 : Int32))), (0, .ref (gB g + a0)), (1, .int x1), (2, .long x2), (4, .long x4), (6, .int x6), (7, .int x7), (8, .int x8)]) hx hb dX5_pricesBelow_66 hl (by decide) rfl (fun ls hl => ?_)
      refine lv_aload_n hx hb dX5_pricesBelow_68 rfl (lv_at hl 1 rfl) ?_
      refine pg_gR C hH fl_X5_22 hf dX5_pricesBelow_69 (fun v69 hf => ?_)
      refine lv_iload_n hx hb dX5_pricesBelow_72 rfl (lv_at hl 2 rfl) ?_
      refine lv_iload hx hb dX5_pricesBelow_73 (lv_at hl 0 rfl) ?_
      refine pg_Vl (As := [.int x1, .int ((x6 + x7) / (2 : Int32))]) C hH mi_X2_priced vl_X5_50 (q := (RX2, TX2, 8)) (ci := 2) rfl rfl hf (fun _ e1 => (oO_sp e1).1) (fun _ _ e1 => c_X2_priced e1) rfl rfl hl.1 (Nat.le_of_ble_eq_true rfl) ⟨Nat.le_of_ble_eq_true rfl, Nat.le_of_ble_eq_true rfl⟩ ⟨Nat.zero_le _, Nat.zero_le _⟩ dX5_pricesBelow_75 (fun H locs v75 h75 hH hf => ?_)
      refine lv_lload hx hb dX5_pricesBelow_78 (lv_at hl 4 rfl) ?_
      refine lv_ladd hx hb dX5_pricesBelow_80 ?_
      refine lv_lload_n hx hb dX5_pricesBelow_81 rfl (lv_at hl 3 rfl) ?_
      refine W.lcmp hx hb dX5_pricesBelow_82 ?_
      refine lv_if_ge (tgt := 93) hx hb dX5_pricesBelow_83 (by decide) (fun cn => ?_) (fun cn => ?_)
      · have hf := (if_pos ((lg_cmp_ge _ _).mp cn)).symm.trans hf
        refine lv_iload hx hb dX5_pricesBelow_93 (lv_at hl 0 rfl) ?_
        refine lv_istore (lv' := [(7, .int ((x6 + x7) / (2 : Int32))), (9, .int ((x6 + x7) / (2 : Int32))), (0, .ref (gB g + a0)), (1, .int x1), (2, .long x2), (4, .long x4), (6, .int x6), (8, .int x8)]) hx hb dX5_pricesBelow_95 hl (by decide) rfl (fun ls hl => ?_)
        refine lv_iinc (v := (x8 + 1)) (lv' := [(8, .int (x8 + 1)), (7, .int ((x6 + x7) / (2 : Int32))), (9, .int ((x6 + x7) / (2 : Int32))), (0, .ref (gB g + a0)), (1, .int x1), (2, .long x2), (4, .long x4), (6, .int x6)]) hx hb dX5_pricesBelow_97 hl (k := 7) rfl rfl (by decide) rfl (fun ls hl => ?_)
        refine lv_goto (tgt := 42) hx hb dX5_pricesBelow_100 (by decide) ?_
        exact k42 hH hf (lv_sub hl [3, 4, 5, 6, 7, 1, 0] rfl)
      · have hf := (if_neg (fun z => cn ((lg_cmp_ge _ _).mpr z))).symm.trans hf
        refine lv_iload hx hb dX5_pricesBelow_86 (lv_at hl 0 rfl) ?_
        refine lv_istore (lv' := [(6, .int ((x6 + x7) / (2 : Int32))), (9, .int ((x6 + x7) / (2 : Int32))), (0, .ref (gB g + a0)), (1, .int x1), (2, .long x2), (4, .long x4), (7, .int x7), (8, .int x8)]) hx hb dX5_pricesBelow_88 hl (by decide) rfl (fun ls hl => ?_)
        refine lv_goto (tgt := 97) hx hb dX5_pricesBelow_90 (by decide) ?_
        refine lv_iinc (v := (x8 + 1)) (lv' := [(8, .int (x8 + 1)), (6, .int ((x6 + x7) / (2 : Int32))), (9, .int ((x6 + x7) / (2 : Int32))), (0, .ref (gB g + a0)), (1, .int x1), (2, .long x2), (4, .long x4), (7, .int x7)]) hx hb dX5_pricesBelow_97 hl (k := 7) rfl rfl (by decide) rfl (fun ls hl => ?_)
        refine lv_goto (tgt := 42) hx hb dX5_pricesBelow_100 (by decide) ?_
        exact k42 hH hf (lv_sub hl [3, 4, 5, 6, 1, 7, 0] rfl)
set_option maxHeartbeats 4000000 in
set_option maxRecDepth 100000 in
theorem wX5_pricesBelow_L42 {r : Int32} {h' : PH} (C : CT g RX5 cX5_pricesBelow 10 (Cond.code yX5_pricesBelow cX5_pricesBelow 10 (some .int) :: TB) p s m args meth c) (hr : meth.sig.returnType = some .int) : ∀ (n : Nat) {h : PH} {a0 : Nat} {x1 : Int32} {x2 : Int64} {x4 : Int64} {x6 : Int32} {x7 : Int32} {x8 : Int32} {H : Heap} {locs : List Loc} {ls : Array Slot}, HS g s H locs h → mX5_pricesBelow_L42 n h a0 x1 x2 x4 x6 x7 x8 = some (r, h') → lv_has ls 10 [(0, .ref (gB g + a0)), (1, .int x1), (2, .long x2), (4, .long x4), (6, .int x6), (7, .int x7), (8, .int x8)] → W p l e (rmD 1 0 0) s m args below meth c H locs 0 0 (MQ below (QcI g r h') args s 0 0 (aB g)) (F0 m 42 ls []) := by
  intro n
  induction n with
  | zero =>
    intro h a0 x1 x2 x4 x6 x7 x8 H locs ls hH hf hl
    exact absurd hf (by intro z; cases z)
  | succ n ih =>
    intro h a0 x1 x2 x4 x6 x7 x8 H locs ls hH hf hl
    have hf : mX5_pricesBelow_b42 (mX5_pricesBelow_L42 n) h a0 x1 x2 x4 x6 x7 x8 = some (r, h') := hf
    exact wX5_pricesBelow_b42 C hr (fun a b c => ih a b c) hH hf hl
set_option maxHeartbeats 4000000 in
set_option maxRecDepth 100000 in
theorem c_X5_pricesBelow {l : Launch} {g : GD} {h : PH} {a0 : Nat} {x1 : Int32} {x2 : Int64} {r : Int32} {h' : PH} (hf : mX5_pricesBelow h a0 x1 x2 = some (r, h')) : Met l yX5_pricesBelow (Cond.code yX5_pricesBelow cX5_pricesBelow 10 (some .int) :: TB) (rmD 1 0 0) (PcH g [.ref (gB g + a0), .int x1, .long x2] h) (QcI g r h') 0 0 (aB g) := by
  refine Met.ofW (cc := cX5_pricesBelow) (maxL := 10) (ret := some .int) (by decide) rfl ?_
  intro p e s m args below meth c s₁ B hml hv
  obtain ⟨rfl, hH0, hkk0⟩ := hv
  have C : CT g RX5 cX5_pricesBelow 10 (Cond.code yX5_pricesBelow cX5_pricesBelow 10 (some .int) :: TB) p s m _ meth c := pg_ct (Tw := []) B hml hH0 hkk0
  have hr := B.returns
  have hH : HS g s s.heap [] h := ⟨hH0, va_S.rf⟩
  have hl := lv_entry ([.ref (gB g + a0), .int x1, .long x2]) (n := 10) (Nat.le_of_ble_eq_true rfl)
  rw [lg_entry_eq]
  generalize (lg_sl ([.ref (gB g + a0), .int x1, .long x2]) ++ List.replicate (10 - (lg_sl ([.ref (gB g + a0), .int x1, .long x2])).length) Slot.unset).toArray = ls at hl ⊢
  have hl : lv_has ls 10 [(0, .ref (gB g + a0)), (1, .int x1), (2, .long x2)] := hl
  show W p l e (rmD 1 0 0) _ _ _ _ _ _ _ _ _ _ _ _
  unfold mX5_pricesBelow at hf
  obtain ⟨hO, hf⟩ := oO_sp hf
  obtain ⟨⟨hx, hb, hml, hown, hts⟩, htb, hlk, hkk, hbs⟩ := id C
  refine lv_aload_n hx hb dX5_pricesBelow_0 rfl (lv_at hl 0 rfl) ?_
  refine pg_gR C hH fl_X5_22 hf dX5_pricesBelow_1 (fun v1 hf => ?_)
  refine pg_gR C hH fl_X5_40 hf dX5_pricesBelow_4 (fun v4 hf => ?_)
  refine lv_iload_n hx hb dX5_pricesBelow_7 rfl (lv_at hl 1 rfl) ?_
  refine pg_aL C hH hf dX5_pricesBelow_8 (fun v8 hf => ?_)
  refine lv_aload_n hx hb dX5_pricesBelow_9 rfl (lv_at hl 0 rfl) ?_
  refine pg_gR C hH fl_X5_22 hf dX5_pricesBelow_10 (fun v10 hf => ?_)
  refine lv_iload_n hx hb dX5_pricesBelow_13 rfl (lv_at hl 1 rfl) ?_
  refine lv_aload_n hx hb dX5_pricesBelow_14 rfl (lv_at hl 0 rfl) ?_
  refine pg_gR C hH fl_X5_18 hf dX5_pricesBelow_15 (fun v15 hf => ?_)
  refine pg_gR C hH fl_X5_44 hf dX5_pricesBelow_18 (fun v18 hf => ?_)
  refine lv_iload_n hx hb dX5_pricesBelow_21 rfl (lv_at hl 1 rfl) ?_
  refine pg_aR C hH (Or.inr rfl) hf dX5_pricesBelow_22 (fun v22 hf => ?_)
  refine lv_iconst (v := (4 : Int32)) hx hb dX5_pricesBelow_23 (by decide) ?_
  refine pg_aI C hH hf dX5_pricesBelow_24 (fun v24 hf => ?_)
  refine pg_Vl (As := [.int x1, .int v24]) C hH mi_X2_priced vl_X5_50 (q := (RX2, TX2, 8)) (ci := 2) rfl rfl hf (fun _ e1 => (oO_sp e1).1) (fun _ _ e1 => c_X2_priced e1) rfl rfl hl.1 (Nat.le_of_ble_eq_true rfl) ⟨Nat.le_of_ble_eq_true rfl, Nat.le_of_ble_eq_true rfl⟩ ⟨Nat.zero_le _, Nat.zero_le _⟩ dX5_pricesBelow_25 (fun H locs v25 h25 hH hf => ?_)
  refine lv_lsub hx hb dX5_pricesBelow_28 ?_
  refine lv_lstore (lv' := [(4, .long (v8 - v25)), (0, .ref (gB g + a0)), (1, .int x1), (2, .long x2)]) hx hb dX5_pricesBelow_29 hl (by decide) rfl (fun ls hl => ?_)
  refine lv_iconst (v := (0 : Int32)) hx hb dX5_pricesBelow_31 (by decide) ?_
  refine lv_istore (lv' := [(6, .int (0 : Int32)), (4, .long (v8 - v25)), (0, .ref (gB g + a0)), (1, .int x1), (2, .long x2)]) hx hb dX5_pricesBelow_32 hl (by decide) rfl (fun ls hl => ?_)
  refine lv_sipush (v := (10000 : Int32)) hx hb dX5_pricesBelow_34 (by decide) ?_
  refine lv_istore (lv' := [(7, .int (10000 : Int32)), (6, .int (0 : Int32)), (4, .long (v8 - v25)), (0, .ref (gB g + a0)), (1, .int x1), (2, .long x2)]) hx hb dX5_pricesBelow_37 hl (by decide) rfl (fun ls hl => ?_)
  refine lv_iconst (v := (0 : Int32)) hx hb dX5_pricesBelow_39 (by decide) ?_
  refine lv_istore (lv' := [(8, .int (0 : Int32)), (7, .int (10000 : Int32)), (6, .int (0 : Int32)), (4, .long (v8 - v25)), (0, .ref (gB g + a0)), (1, .int x1), (2, .long x2)]) hx hb dX5_pricesBelow_40 hl (by decide) rfl (fun ls hl => ?_)
  exact wX5_pricesBelow_L42 C hr FU hH hf (lv_sub hl [4, 5, 6, 3, 2, 1, 0] rfl)
set_option maxHeartbeats 4000000 in
set_option maxRecDepth 100000 in
theorem wX5_find_b8 {r8 : PH → Nat → Int32 → Nat → Int32 → Int32 → Option (PH)} {h' : PH} (C : CT g RX5 cX5_find 7 (Cond.code yX5_find cX5_find 7 (none) :: TB) p s m args meth c) (hr : meth.sig.returnType = none) (k8 : ∀ {h : PH} {a0 : Nat} {x1 : Int32} {a2 : Nat} {x3 : Int32} {x4 : Int32} {H : Heap} {locs : List Loc} {ls : Array Slot}, HS g s H locs h → r8 h a0 x1 a2 x3 x4 = some h' → lv_has ls 7 [(0, .ref (gB g + a0)), (1, .int x1), (2, .ref (gB g + a2)), (3, .int x3), (4, .int x4)] → W p l e (rmD 2 0 0) s m args below meth c H locs 0 0 (MQ below (QcV g h') args s 0 0 (aB g)) (F0 m 8 ls [])) {h : PH} {a0 : Nat} {x1 : Int32} {a2 : Nat} {x3 : Int32} {x4 : Int32} {H : Heap} {locs : List Loc} {ls : Array Slot} (hH : HS g s H locs h) (hf : mX5_find_b8 r8 h a0 x1 a2 x3 x4 = some h') (hl : lv_has ls 7 [(0, .ref (gB g + a0)), (1, .int x1), (2, .ref (gB g + a2)), (3, .int x3), (4, .int x4)]) : W p l e (rmD 2 0 0) s m args below meth c H locs 0 0 (MQ below (QcV g h') args s 0 0 (aB g)) (F0 m 8 ls []) := by
  obtain ⟨⟨hx, hb, hml, hown, hts⟩, htb, hlk, hkk, hbs⟩ := id C
  unfold mX5_find_b8 at hf
  refine lv_iload hx hb dX5_find_8 (lv_at hl 4 rfl) ?_
  refine lv_iload_n hx hb dX5_find_10 rfl (lv_at hl 3 rfl) ?_
  refine lv_icmp_ge (tgt := 126) hx hb dX5_find_11 (by decide) (fun cn => ?_) (fun cn => ?_)
  · have hf := (if_pos cn).symm.trans hf
    exact pg_vret C hr hH hf dX5_find_126
  · have hf := (if_neg cn).symm.trans hf
    refine lv_iload hx hb dX5_find_14 (lv_at hl 4 rfl) ?_
    refine lv_aload_n hx hb dX5_find_16 rfl (lv_at hl 2 rfl) ?_
    refine pg_aN C hH (by decide) hf dX5_find_17 (fun v17 hf => ?_)
    refine lv_icmp_ge (tgt := 126) hx hb dX5_find_18 (by decide) (fun cn => ?_) (fun cn => ?_)
    · have hf := (if_pos cn).symm.trans hf
      exact pg_vret C hr hH hf dX5_find_126
    · have hf := (if_neg cn).symm.trans hf
      refine lv_aload_n hx hb dX5_find_21 rfl (lv_at hl 0 rfl) ?_
      refine pg_gI C hH fl_X5_26 hf dX5_find_22 (fun v22 hf => ?_)
      refine lv_bipush (v := (11 : Int32)) hx hb dX5_find_25 (by decide) ?_
      refine lv_icmp_ge (tgt := 126) hx hb dX5_find_27 (by decide) (fun cn => ?_) (fun cn => ?_)
      · have hf := (if_pos cn).symm.trans hf
        exact pg_vret C hr hH hf dX5_find_126
      · have hf := (if_neg cn).symm.trans hf
        refine lv_aload_n hx hb dX5_find_30 rfl (lv_at hl 0 rfl) ?_
        refine pg_gR C hH fl_X5_22 hf dX5_find_31 (fun v31 hf => ?_)
        refine lv_aload_n hx hb dX5_find_34 rfl (lv_at hl 2 rfl) ?_
        refine lv_iload hx hb dX5_find_35 (lv_at hl 4 rfl) ?_
        refine pg_aL C hH hf dX5_find_37 (fun v37 hf => ?_)
        refine pg_Vl (As := [.long v37]) C hH mi_X2_slack vl_X5_30 (q := (RX2, TX2, 8)) (ci := 2) rfl rfl hf (fun _ e1 => (oO_sp e1).1) (fun _ _ e1 => c_X2_slack e1) rfl rfl hl.1 (Nat.le_of_ble_eq_true rfl) ⟨Nat.le_of_ble_eq_true rfl, Nat.le_of_ble_eq_true rfl⟩ ⟨Nat.zero_le _, Nat.zero_le _⟩ dX5_find_38 (fun H locs v38 h38 hH hf => ?_)
        refine lv_lstore (lv' := [(5, .long v38), (0, .ref (gB g + a0)), (1, .int x1), (2, .ref (gB g + a2)), (3, .int x3), (4, .int x4)]) hx hb dX5_find_41 hl (by decide) rfl (fun ls hl => ?_)
        refine lv_aload_n hx hb dX5_find_43 rfl (lv_at hl 1 rfl) ?_
        refine pg_gR C hH fl_X5_9 hf dX5_find_44 (fun v44 hf => ?_)
        refine lv_aload_n hx hb dX5_find_47 rfl (lv_at hl 1 rfl) ?_
        refine pg_gI C hH fl_X5_26 hf dX5_find_48 (fun v48 hf => ?_)
        refine lv_aload_n hx hb dX5_find_51 rfl (lv_at hl 1 rfl) ?_
        refine lv_iload_n hx hb dX5_find_52 rfl (lv_at hl 2 rfl) ?_
        refine lv_aload_n hx hb dX5_find_53 rfl (lv_at hl 3 rfl) ?_
        refine lv_iload hx hb dX5_find_54 (lv_at hl 5 rfl) ?_
        refine pg_aL C hH hf dX5_find_56 (fun v56 hf => ?_)
        refine lv_lload hx hb dX5_find_57 (lv_at hl 0 rfl) ?_
        refine lv_lsub hx hb dX5_find_59 ?_
        refine pg_Vi (As := [.int x1, .long (v56 - v38)]) C hH mi_X5_pricesBelow vl_X5_36 (q := (RX5, TX5, 5)) (ci := 5) rfl rfl hf (fun _ e1 => (oO_sp e1).1) (fun _ _ e1 => c_X5_pricesBelow e1) rfl rfl hl.1 (Nat.le_of_ble_eq_true rfl) ⟨Nat.le_of_ble_eq_true rfl, Nat.le_of_ble_eq_true rfl⟩ ⟨Nat.zero_le _, Nat.zero_le _⟩ dX5_find_60 (fun H locs v60 h60 hH hf => ?_)
        refine lv_iconst (v := (1 : Int32)) hx hb dX5_find_63 (by decide) ?_
        refine lv_iadd hx hb dX5_find_64 ?_
        refine pg_sI C hH hf dX5_find_65 (fun H locs h65 hH hf => ?_)
        refine lv_aload_n hx hb dX5_find_66 rfl (lv_at hl 1 rfl) ?_
        refine pg_gR C hH fl_X5_15 hf dX5_find_67 (fun v67 hf => ?_)
        refine lv_aload_n hx hb dX5_find_70 rfl (lv_at hl 1 rfl) ?_
        refine pg_gI C hH fl_X5_26 hf dX5_find_71 (fun v71 hf => ?_)
        refine lv_aload_n hx hb dX5_find_74 rfl (lv_at hl 1 rfl) ?_
        refine lv_iload_n hx hb dX5_find_75 rfl (lv_at hl 2 rfl) ?_
        refine lv_aload_n hx hb dX5_find_76 rfl (lv_at hl 3 rfl) ?_
        refine lv_iload hx hb dX5_find_77 (lv_at hl 5 rfl) ?_
        refine pg_aL C hH hf dX5_find_79 (fun v79 hf => ?_)
        refine lv_lload hx hb dX5_find_80 (lv_at hl 0 rfl) ?_
        refine lv_ladd hx hb dX5_find_82 ?_
        refine lv_lconst (v := (1 : Int64)) hx hb dX5_find_83 (by decide) ?_
        refine lv_ladd hx hb dX5_find_84 ?_
        refine pg_Vi (As := [.int x1, .long ((v79 + v38) + (1 : Int64))]) C hH mi_X5_pricesBelow vl_X5_36 (q := (RX5, TX5, 5)) (ci := 5) rfl rfl hf (fun _ e1 => (oO_sp e1).1) (fun _ _ e1 => c_X5_pricesBelow e1) rfl rfl hl.1 (Nat.le_of_ble_eq_true rfl) ⟨Nat.le_of_ble_eq_true rfl, Nat.le_of_ble_eq_true rfl⟩ ⟨Nat.zero_le _, Nat.zero_le _⟩ dX5_find_85 (fun H locs v85 h85 hH hf => ?_)
        refine pg_sI C hH hf dX5_find_88 (fun H locs h88 hH hf => ?_)
        refine lv_aload_n hx hb dX5_find_89 rfl (lv_at hl 1 rfl) ?_
        refine pg_gR C hH fl_X5_9 hf dX5_find_90 (fun v90 hf => ?_)
        refine lv_aload_n hx hb dX5_find_93 rfl (lv_at hl 1 rfl) ?_
        refine pg_gI C hH fl_X5_26 hf dX5_find_94 (fun v94 hf => ?_)
        refine pg_aI C hH hf dX5_find_97 (fun v97 hf => ?_)
        refine lv_aload_n hx hb dX5_find_98 rfl (lv_at hl 1 rfl) ?_
        refine pg_gR C hH fl_X5_15 hf dX5_find_99 (fun v99 hf => ?_)
        refine lv_aload_n hx hb dX5_find_102 rfl (lv_at hl 1 rfl) ?_
        refine pg_gI C hH fl_X5_26 hf dX5_find_103 (fun v103 hf => ?_)
        refine pg_aI C hH hf dX5_find_106 (fun v106 hf => ?_)
        refine lv_icmp_gt (tgt := 120) hx hb dX5_find_107 (by decide) (fun cn => ?_) (fun cn => ?_)
        · have hf := (if_pos cn).symm.trans hf
          refine lv_iinc (v := (x4 + 1)) (lv' := [(4, .int (x4 + 1)), (5, .long v38), (0, .ref (gB g + a0)), (1, .int x1), (2, .ref (gB g + a2)), (3, .int x3)]) hx hb dX5_find_120 hl (k := 5) rfl rfl (by decide) rfl (fun ls hl => ?_)
          refine lv_goto (tgt := 8) hx hb dX5_find_123 (by decide) ?_
          exact k8 hH hf (lv_sub hl [2, 3, 4, 5, 0] rfl)
        · have hf := (if_neg cn).symm.trans hf
          refine lv_aload_n hx hb dX5_find_110 rfl (lv_at hl 1 rfl) ?_
          refine lv_dup hx hb dX5_find_111 rfl ?_
          refine pg_gI C hH fl_X5_26 hf dX5_find_112 (fun v112 hf => ?_)
          refine lv_iconst (v := (1 : Int32)) hx hb dX5_find_115 (by decide) ?_
          refine lv_iadd hx hb dX5_find_116 ?_
          refine pg_pI C hH fl_X5_26 fm_5_4 hf dX5_find_117 (fun H locs h117 hH hf => ?_)
          refine lv_iinc (v := (x4 + 1)) (lv' := [(4, .int (x4 + 1)), (5, .long v38), (0, .ref (gB g + a0)), (1, .int x1), (2, .ref (gB g + a2)), (3, .int x3)]) hx hb dX5_find_120 hl (k := 5) rfl rfl (by decide) rfl (fun ls hl => ?_)
          refine lv_goto (tgt := 8) hx hb dX5_find_123 (by decide) ?_
          exact k8 hH hf (lv_sub hl [2, 3, 4, 5, 0] rfl)
set_option maxHeartbeats 4000000 in
set_option maxRecDepth 100000 in
theorem wX5_find_L8 {h' : PH} (C : CT g RX5 cX5_find 7 (Cond.code yX5_find cX5_find 7 (none) :: TB) p s m args meth c) (hr : meth.sig.returnType = none) : ∀ (n : Nat) {h : PH} {a0 : Nat} {x1 : Int32} {a2 : Nat} {x3 : Int32} {x4 : Int32} {H : Heap} {locs : List Loc} {ls : Array Slot}, HS g s H locs h → mX5_find_L8 n h a0 x1 a2 x3 x4 = some h' → lv_has ls 7 [(0, .ref (gB g + a0)), (1, .int x1), (2, .ref (gB g + a2)), (3, .int x3), (4, .int x4)] → W p l e (rmD 2 0 0) s m args below meth c H locs 0 0 (MQ below (QcV g h') args s 0 0 (aB g)) (F0 m 8 ls []) := by
  intro n
  induction n with
  | zero =>
    intro h a0 x1 a2 x3 x4 H locs ls hH hf hl
    exact absurd hf (by intro z; cases z)
  | succ n ih =>
    intro h a0 x1 a2 x3 x4 H locs ls hH hf hl
    have hf : mX5_find_b8 (mX5_find_L8 n) h a0 x1 a2 x3 x4 = some h' := hf
    exact wX5_find_b8 C hr (fun a b c => ih a b c) hH hf hl
set_option maxHeartbeats 4000000 in
set_option maxRecDepth 100000 in
theorem c_X5_find {l : Launch} {g : GD} {h : PH} {a0 : Nat} {x1 : Int32} {a2 : Nat} {x3 : Int32} {h' : PH} (hf : mX5_find h a0 x1 a2 x3 = some h') : Met l yX5_find (Cond.code yX5_find cX5_find 7 (none) :: TB) (rmD 2 0 0) (PcH g [.ref (gB g + a0), .int x1, .ref (gB g + a2), .int x3] h) (QcV g h') 0 0 (aB g) := by
  refine Met.ofW (cc := cX5_find) (maxL := 7) (ret := none) (by decide) rfl ?_
  intro p e s m args below meth c s₁ B hml hv
  obtain ⟨rfl, hH0, hkk0⟩ := hv
  have C : CT g RX5 cX5_find 7 (Cond.code yX5_find cX5_find 7 (none) :: TB) p s m _ meth c := pg_ct (Tw := []) B hml hH0 hkk0
  have hr := B.returns
  have hH : HS g s s.heap [] h := ⟨hH0, va_S.rf⟩
  have hl := lv_entry ([.ref (gB g + a0), .int x1, .ref (gB g + a2), .int x3]) (n := 7) (Nat.le_of_ble_eq_true rfl)
  rw [lg_entry_eq]
  generalize (lg_sl ([.ref (gB g + a0), .int x1, .ref (gB g + a2), .int x3]) ++ List.replicate (7 - (lg_sl ([.ref (gB g + a0), .int x1, .ref (gB g + a2), .int x3])).length) Slot.unset).toArray = ls at hl ⊢
  have hl : lv_has ls 7 [(0, .ref (gB g + a0)), (1, .int x1), (2, .ref (gB g + a2)), (3, .int x3)] := hl
  show W p l e (rmD 2 0 0) _ _ _ _ _ _ _ _ _ _ _ _
  unfold mX5_find at hf
  obtain ⟨hO, hf⟩ := oO_sp hf
  obtain ⟨⟨hx, hb, hml, hown, hts⟩, htb, hlk, hkk, hbs⟩ := id C
  refine lv_aload_n hx hb dX5_find_0 rfl (lv_at hl 0 rfl) ?_
  refine lv_iconst (v := (0 : Int32)) hx hb dX5_find_1 (by decide) ?_
  refine pg_pI C hH fl_X5_26 fm_5_4 hf dX5_find_2 (fun H locs h2 hH hf => ?_)
  refine lv_iconst (v := (0 : Int32)) hx hb dX5_find_5 (by decide) ?_
  refine lv_istore (lv' := [(4, .int (0 : Int32)), (0, .ref (gB g + a0)), (1, .int x1), (2, .ref (gB g + a2)), (3, .int x3)]) hx hb dX5_find_6 hl (by decide) rfl (fun ls hl => ?_)
  exact wX5_find_L8 C hr FU hH hf (lv_sub hl [1, 2, 3, 4, 0] rfl)
set_option maxHeartbeats 4000000 in
set_option maxRecDepth 100000 in
theorem wX5_lowestBeyond_b4 {r4 : PH → Nat → Int32 → Int32 → Int32 → Option (Int32 × PH)} {r : Int32} {h' : PH} (C : CT g RX5 cX5_lowestBeyond 4 (Cond.code yX5_lowestBeyond cX5_lowestBeyond 4 (some .int) :: TB) p s m args meth c) (hr : meth.sig.returnType = some .int) (k4 : ∀ {h : PH} {a0 : Nat} {x1 : Int32} {x2 : Int32} {x3 : Int32} {H : Heap} {locs : List Loc} {ls : Array Slot}, HS g s H locs h → r4 h a0 x1 x2 x3 = some (r, h') → lv_has ls 4 [(0, .ref (gB g + a0)), (1, .int x1), (2, .int x2), (3, .int x3)] → W p l e (rmD 0 0 0) s m args below meth c H locs 0 0 (MQ below (QcI g r h') args s 0 0 (aB g)) (F0 m 4 ls [])) {h : PH} {a0 : Nat} {x1 : Int32} {x2 : Int32} {x3 : Int32} {H : Heap} {locs : List Loc} {ls : Array Slot} (hH : HS g s H locs h) (hf : mX5_lowestBeyond_b4 r4 h a0 x1 x2 x3 = some (r, h')) (hl : lv_has ls 4 [(0, .ref (gB g + a0)), (1, .int x1), (2, .int x2), (3, .int x3)]) : W p l e (rmD 0 0 0) s m args below meth c H locs 0 0 (MQ below (QcI g r h') args s 0 0 (aB g)) (F0 m 4 ls []) := by
  obtain ⟨⟨hx, hb, hml, hown, hts⟩, htb, hlk, hkk, hbs⟩ := id C
  unfold mX5_lowestBeyond_b4 at hf
  refine lv_iload_n hx hb dX5_lowestBeyond_4 rfl (lv_at hl 3 rfl) ?_
  refine lv_aload_n hx hb dX5_lowestBeyond_5 rfl (lv_at hl 0 rfl) ?_
  refine pg_gI C hH fl_X5_26 hf dX5_lowestBeyond_6 (fun v6 hf => ?_)
  refine lv_icmp_ge (tgt := 50) hx hb dX5_lowestBeyond_9 (by decide) (fun cn => ?_) (fun cn => ?_)
  · have hf := (if_pos cn).symm.trans hf
    refine lv_iload_n hx hb dX5_lowestBeyond_50 rfl (lv_at hl 2 rfl) ?_
    exact pg_iret C hr hH hf dX5_lowestBeyond_51
  · have hf := (if_neg cn).symm.trans hf
    refine lv_aload_n hx hb dX5_lowestBeyond_12 rfl (lv_at hl 0 rfl) ?_
    refine pg_gR C hH fl_X5_15 hf dX5_lowestBeyond_13 (fun v13 hf => ?_)
    refine lv_iload_n hx hb dX5_lowestBeyond_16 rfl (lv_at hl 3 rfl) ?_
    refine pg_aI C hH hf dX5_lowestBeyond_17 (fun v17 hf => ?_)
    refine lv_iload_n hx hb dX5_lowestBeyond_18 rfl (lv_at hl 1 rfl) ?_
    refine lv_icmp_le (tgt := 44) hx hb dX5_lowestBeyond_19 (by decide) (fun cn => ?_) (fun cn => ?_)
    · have hf := (if_pos cn).symm.trans hf
      refine lv_iinc (v := (x3 + 1)) (lv' := [(3, .int (x3 + 1)), (0, .ref (gB g + a0)), (1, .int x1), (2, .int x2)]) hx hb dX5_lowestBeyond_44 hl (k := 3) rfl rfl (by decide) rfl (fun ls hl => ?_)
      refine lv_goto (tgt := 4) hx hb dX5_lowestBeyond_47 (by decide) ?_
      exact k4 hH hf (lv_sub hl [1, 2, 3, 0] rfl)
    · have hf := (if_neg cn).symm.trans hf
      refine lv_iload_n hx hb dX5_lowestBeyond_22 rfl (lv_at hl 2 rfl) ?_
      refine lv_iconst (v := (-1 : Int32)) hx hb dX5_lowestBeyond_23 (by decide) ?_
      refine lv_icmp_eq (tgt := 42) hx hb dX5_lowestBeyond_24 (by decide) (fun cn => ?_) (fun cn => ?_)
      · have hf := (if_pos cn).symm.trans hf
        refine lv_iload_n hx hb dX5_lowestBeyond_42 rfl (lv_at hl 3 rfl) ?_
        refine lv_istore_n (lv' := [(2, .int x3), (0, .ref (gB g + a0)), (1, .int x1), (3, .int x3)]) hx hb dX5_lowestBeyond_43 rfl hl (by decide) rfl (fun ls hl => ?_)
        refine lv_iinc (v := (x3 + 1)) (lv' := [(3, .int (x3 + 1)), (2, .int x3), (0, .ref (gB g + a0)), (1, .int x1)]) hx hb dX5_lowestBeyond_44 hl (k := 3) rfl rfl (by decide) rfl (fun ls hl => ?_)
        refine lv_goto (tgt := 4) hx hb dX5_lowestBeyond_47 (by decide) ?_
        exact k4 hH hf (lv_sub hl [2, 3, 1, 0] rfl)
      · have hf := (if_neg cn).symm.trans hf
        refine lv_aload_n hx hb dX5_lowestBeyond_27 rfl (lv_at hl 0 rfl) ?_
        refine pg_gR C hH fl_X5_9 hf dX5_lowestBeyond_28 (fun v28 hf => ?_)
        refine lv_iload_n hx hb dX5_lowestBeyond_31 rfl (lv_at hl 3 rfl) ?_
        refine pg_aI C hH hf dX5_lowestBeyond_32 (fun v32 hf => ?_)
        refine lv_aload_n hx hb dX5_lowestBeyond_33 rfl (lv_at hl 0 rfl) ?_
        refine pg_gR C hH fl_X5_9 hf dX5_lowestBeyond_34 (fun v34 hf => ?_)
        refine lv_iload_n hx hb dX5_lowestBeyond_37 rfl (lv_at hl 2 rfl) ?_
        refine pg_aI C hH hf dX5_lowestBeyond_38 (fun v38 hf => ?_)
        refine lv_icmp_ge (tgt := 44) hx hb dX5_lowestBeyond_39 (by decide) (fun cn => ?_) (fun cn => ?_)
        · have hf := (if_pos cn).symm.trans hf
          refine lv_iinc (v := (x3 + 1)) (lv' := [(3, .int (x3 + 1)), (0, .ref (gB g + a0)), (1, .int x1), (2, .int x2)]) hx hb dX5_lowestBeyond_44 hl (k := 3) rfl rfl (by decide) rfl (fun ls hl => ?_)
          refine lv_goto (tgt := 4) hx hb dX5_lowestBeyond_47 (by decide) ?_
          exact k4 hH hf (lv_sub hl [1, 2, 3, 0] rfl)
        · have hf := (if_neg cn).symm.trans hf
          refine lv_iload_n hx hb dX5_lowestBeyond_42 rfl (lv_at hl 3 rfl) ?_
          refine lv_istore_n (lv' := [(2, .int x3), (0, .ref (gB g + a0)), (1, .int x1), (3, .int x3)]) hx hb dX5_lowestBeyond_43 rfl hl (by decide) rfl (fun ls hl => ?_)
          refine lv_iinc (v := (x3 + 1)) (lv' := [(3, .int (x3 + 1)), (2, .int x3), (0, .ref (gB g + a0)), (1, .int x1)]) hx hb dX5_lowestBeyond_44 hl (k := 3) rfl rfl (by decide) rfl (fun ls hl => ?_)
          refine lv_goto (tgt := 4) hx hb dX5_lowestBeyond_47 (by decide) ?_
          exact k4 hH hf (lv_sub hl [2, 3, 1, 0] rfl)
set_option maxHeartbeats 4000000 in
set_option maxRecDepth 100000 in
theorem wX5_lowestBeyond_L4 {r : Int32} {h' : PH} (C : CT g RX5 cX5_lowestBeyond 4 (Cond.code yX5_lowestBeyond cX5_lowestBeyond 4 (some .int) :: TB) p s m args meth c) (hr : meth.sig.returnType = some .int) : ∀ (n : Nat) {h : PH} {a0 : Nat} {x1 : Int32} {x2 : Int32} {x3 : Int32} {H : Heap} {locs : List Loc} {ls : Array Slot}, HS g s H locs h → mX5_lowestBeyond_L4 n h a0 x1 x2 x3 = some (r, h') → lv_has ls 4 [(0, .ref (gB g + a0)), (1, .int x1), (2, .int x2), (3, .int x3)] → W p l e (rmD 0 0 0) s m args below meth c H locs 0 0 (MQ below (QcI g r h') args s 0 0 (aB g)) (F0 m 4 ls []) := by
  intro n
  induction n with
  | zero =>
    intro h a0 x1 x2 x3 H locs ls hH hf hl
    exact absurd hf (by intro z; cases z)
  | succ n ih =>
    intro h a0 x1 x2 x3 H locs ls hH hf hl
    have hf : mX5_lowestBeyond_b4 (mX5_lowestBeyond_L4 n) h a0 x1 x2 x3 = some (r, h') := hf
    exact wX5_lowestBeyond_b4 C hr (fun a b c => ih a b c) hH hf hl
set_option maxHeartbeats 4000000 in
set_option maxRecDepth 100000 in
theorem c_X5_lowestBeyond {l : Launch} {g : GD} {h : PH} {a0 : Nat} {x1 : Int32} {r : Int32} {h' : PH} (hf : mX5_lowestBeyond h a0 x1 = some (r, h')) : Met l yX5_lowestBeyond (Cond.code yX5_lowestBeyond cX5_lowestBeyond 4 (some .int) :: TB) (rmD 0 0 0) (PcH g [.ref (gB g + a0), .int x1] h) (QcI g r h') 0 0 (aB g) := by
  refine Met.ofW (cc := cX5_lowestBeyond) (maxL := 4) (ret := some .int) (by decide) rfl ?_
  intro p e s m args below meth c s₁ B hml hv
  obtain ⟨rfl, hH0, hkk0⟩ := hv
  have C : CT g RX5 cX5_lowestBeyond 4 (Cond.code yX5_lowestBeyond cX5_lowestBeyond 4 (some .int) :: TB) p s m _ meth c := pg_ct (Tw := []) B hml hH0 hkk0
  have hr := B.returns
  have hH : HS g s s.heap [] h := ⟨hH0, va_S.rf⟩
  have hl := lv_entry ([.ref (gB g + a0), .int x1]) (n := 4) (Nat.le_of_ble_eq_true rfl)
  rw [lg_entry_eq]
  generalize (lg_sl ([.ref (gB g + a0), .int x1]) ++ List.replicate (4 - (lg_sl ([.ref (gB g + a0), .int x1])).length) Slot.unset).toArray = ls at hl ⊢
  have hl : lv_has ls 4 [(0, .ref (gB g + a0)), (1, .int x1)] := hl
  show W p l e (rmD 0 0 0) _ _ _ _ _ _ _ _ _ _ _ _
  unfold mX5_lowestBeyond at hf
  obtain ⟨hO, hf⟩ := oO_sp hf
  obtain ⟨⟨hx, hb, hml, hown, hts⟩, htb, hlk, hkk, hbs⟩ := id C
  refine lv_iconst (v := (-1 : Int32)) hx hb dX5_lowestBeyond_0 (by decide) ?_
  refine lv_istore_n (lv' := [(2, .int (-1 : Int32)), (0, .ref (gB g + a0)), (1, .int x1)]) hx hb dX5_lowestBeyond_1 rfl hl (by decide) rfl (fun ls hl => ?_)
  refine lv_iconst (v := (0 : Int32)) hx hb dX5_lowestBeyond_2 (by decide) ?_
  refine lv_istore_n (lv' := [(3, .int (0 : Int32)), (2, .int (-1 : Int32)), (0, .ref (gB g + a0)), (1, .int x1)]) hx hb dX5_lowestBeyond_3 rfl hl (by decide) rfl (fun ls hl => ?_)
  exact wX5_lowestBeyond_L4 C hr FU hH hf (lv_sub hl [2, 3, 1, 0] rfl)
set_option maxHeartbeats 4000000 in
set_option maxRecDepth 100000 in
theorem wX5_size_b6 {r6 : PH → Nat → Int32 → Int32 → Int32 → Option (Int32 × PH)} {r : Int32} {h' : PH} (C : CT g RX5 cX5_size 5 (Cond.code yX5_size cX5_size 5 (some .int) :: TB) p s m args meth c) (hr : meth.sig.returnType = some .int) (k6 : ∀ {h : PH} {a0 : Nat} {x1 : Int32} {x2 : Int32} {x3 : Int32} {H : Heap} {locs : List Loc} {ls : Array Slot}, HS g s H locs h → r6 h a0 x1 x2 x3 = some (r, h') → lv_has ls 5 [(0, .ref (gB g + a0)), (1, .int x1), (2, .int x2), (3, .int x3)] → W p l e (rmD 1 0 0) s m args below meth c H locs 0 0 (MQ below (QcI g r h') args s 0 0 (aB g)) (F0 m 6 ls [])) {h : PH} {a0 : Nat} {x1 : Int32} {x2 : Int32} {x3 : Int32} {H : Heap} {locs : List Loc} {ls : Array Slot} (hH : HS g s H locs h) (hf : mX5_size_b6 r6 h a0 x1 x2 x3 = some (r, h')) (hl : lv_has ls 5 [(0, .ref (gB g + a0)), (1, .int x1), (2, .int x2), (3, .int x3)]) : W p l e (rmD 1 0 0) s m args below meth c H locs 0 0 (MQ below (QcI g r h') args s 0 0 (aB g)) (F0 m 6 ls []) := by
  obtain ⟨⟨hx, hb, hml, hown, hts⟩, htb, hlk, hkk, hbs⟩ := id C
  unfold mX5_size_b6 at hf
  refine lv_iload_n hx hb dX5_size_6 rfl (lv_at hl 3 rfl) ?_
  refine lv_aload_n hx hb dX5_size_7 rfl (lv_at hl 0 rfl) ?_
  refine pg_gI C hH fl_X5_26 hf dX5_size_8 (fun v8 hf => ?_)
  refine lv_icmp_ge (tgt := 68) hx hb dX5_size_11 (by decide) (fun cn => ?_) (fun cn => ?_)
  · have hf := (if_pos cn).symm.trans hf
    refine lv_iload_n hx hb dX5_size_68 rfl (lv_at hl 1 rfl) ?_
    exact pg_iret C hr hH hf dX5_size_69
  · have hf := (if_neg cn).symm.trans hf
    refine lv_aload_n hx hb dX5_size_14 rfl (lv_at hl 0 rfl) ?_
    refine lv_iload_n hx hb dX5_size_15 rfl (lv_at hl 2 rfl) ?_
    refine pg_Vi (As := [.int x2]) C hH mi_X5_lowestBeyond vl_X5_54 (q := (RX5, TX5, 5)) (ci := 5) rfl rfl hf (fun _ e1 => (oO_sp e1).1) (fun _ _ e1 => c_X5_lowestBeyond e1) rfl rfl hl.1 (Nat.le_of_ble_eq_true rfl) ⟨Nat.le_of_ble_eq_true rfl, Nat.le_of_ble_eq_true rfl⟩ ⟨Nat.zero_le _, Nat.zero_le _⟩ dX5_size_16 (fun H locs v16 h16 hH hf => ?_)
    refine lv_istore (lv' := [(4, .int v16), (0, .ref (gB g + a0)), (1, .int x1), (2, .int x2), (3, .int x3)]) hx hb dX5_size_19 hl (by decide) rfl (fun ls hl => ?_)
    refine lv_iload hx hb dX5_size_21 (lv_at hl 0 rfl) ?_
    refine lv_iconst (v := (-1 : Int32)) hx hb dX5_size_23 (by decide) ?_
    refine lv_icmp_ne (tgt := 30) hx hb dX5_size_24 (by decide) (fun cn => ?_) (fun cn => ?_)
    · have hf := (if_neg cn).symm.trans hf
      refine lv_iload_n hx hb dX5_size_30 rfl (lv_at hl 2 rfl) ?_
      refine lv_aload_n hx hb dX5_size_31 rfl (lv_at hl 1 rfl) ?_
      refine pg_gR C hH fl_X5_15 hf dX5_size_32 (fun v32 hf => ?_)
      refine lv_iload hx hb dX5_size_35 (lv_at hl 0 rfl) ?_
      refine pg_aI C hH hf dX5_size_37 (fun v37 hf => ?_)
      refine lv_aload_n hx hb dX5_size_38 rfl (lv_at hl 1 rfl) ?_
      refine pg_gR C hH fl_X5_9 hf dX5_size_39 (fun v39 hf => ?_)
      refine lv_iload hx hb dX5_size_42 (lv_at hl 0 rfl) ?_
      refine pg_aI C hH hf dX5_size_44 (fun v44 hf => ?_)
      refine lv_iconst (v := (1 : Int32)) hx hb dX5_size_45 (by decide) ?_
      refine lv_isub hx hb dX5_size_46 ?_
      refine lv_iload_n hx hb dX5_size_47 rfl (lv_at hl 3 rfl) ?_
      refine pg_mmax C jm_X5_58 hl.1 (Nat.le_of_ble_eq_true rfl) (Nat.le_of_ble_eq_true rfl) ⟨Nat.zero_le _, Nat.zero_le _⟩ dX5_size_48 ?_
      refine lv_isub hx hb dX5_size_51 ?_
      refine lv_iadd hx hb dX5_size_52 ?_
      refine lv_istore_n (lv' := [(1, .int (x1 + (v37 - (mmax (v44 - (1 : Int32)) x2)))), (4, .int v16), (0, .ref (gB g + a0)), (2, .int x2), (3, .int x3)]) hx hb dX5_size_53 rfl hl (by decide) rfl (fun ls hl => ?_)
      refine lv_aload_n hx hb dX5_size_54 rfl (lv_at hl 2 rfl) ?_
      refine pg_gR C hH fl_X5_15 hf dX5_size_55 (fun v55 hf => ?_)
      refine lv_iload hx hb dX5_size_58 (lv_at hl 1 rfl) ?_
      refine pg_aI C hH hf dX5_size_60 (fun v60 hf => ?_)
      refine lv_istore_n (lv' := [(2, .int v60), (1, .int (x1 + (v37 - (mmax (v44 - (1 : Int32)) x2)))), (4, .int v16), (0, .ref (gB g + a0)), (3, .int x3)]) hx hb dX5_size_61 rfl hl (by decide) rfl (fun ls hl => ?_)
      refine lv_iinc (v := (x3 + 1)) (lv' := [(3, .int (x3 + 1)), (2, .int v60), (1, .int (x1 + (v37 - (mmax (v44 - (1 : Int32)) x2)))), (4, .int v16), (0, .ref (gB g + a0))]) hx hb dX5_size_62 hl (k := 4) rfl rfl (by decide) rfl (fun ls hl => ?_)
      refine lv_goto (tgt := 6) hx hb dX5_size_65 (by decide) ?_
      exact k6 hH hf (lv_sub hl [4, 2, 1, 0] rfl)
    · have hf := (if_pos cn).symm.trans hf
      refine lv_goto (tgt := 68) hx hb dX5_size_27 (by decide) ?_
      refine lv_iload_n hx hb dX5_size_68 rfl (lv_at hl 2 rfl) ?_
      exact pg_iret C hr hH hf dX5_size_69
set_option maxHeartbeats 4000000 in
set_option maxRecDepth 100000 in
theorem wX5_size_L6 {r : Int32} {h' : PH} (C : CT g RX5 cX5_size 5 (Cond.code yX5_size cX5_size 5 (some .int) :: TB) p s m args meth c) (hr : meth.sig.returnType = some .int) : ∀ (n : Nat) {h : PH} {a0 : Nat} {x1 : Int32} {x2 : Int32} {x3 : Int32} {H : Heap} {locs : List Loc} {ls : Array Slot}, HS g s H locs h → mX5_size_L6 n h a0 x1 x2 x3 = some (r, h') → lv_has ls 5 [(0, .ref (gB g + a0)), (1, .int x1), (2, .int x2), (3, .int x3)] → W p l e (rmD 1 0 0) s m args below meth c H locs 0 0 (MQ below (QcI g r h') args s 0 0 (aB g)) (F0 m 6 ls []) := by
  intro n
  induction n with
  | zero =>
    intro h a0 x1 x2 x3 H locs ls hH hf hl
    exact absurd hf (by intro z; cases z)
  | succ n ih =>
    intro h a0 x1 x2 x3 H locs ls hH hf hl
    have hf : mX5_size_b6 (mX5_size_L6 n) h a0 x1 x2 x3 = some (r, h') := hf
    exact wX5_size_b6 C hr (fun a b c => ih a b c) hH hf hl
set_option maxHeartbeats 4000000 in
set_option maxRecDepth 100000 in
theorem c_X5_size {l : Launch} {g : GD} {h : PH} {a0 : Nat} {r : Int32} {h' : PH} (hf : mX5_size h a0 = some (r, h')) : Met l yX5_size (Cond.code yX5_size cX5_size 5 (some .int) :: TB) (rmD 1 0 0) (PcH g [.ref (gB g + a0)] h) (QcI g r h') 0 0 (aB g) := by
  refine Met.ofW (cc := cX5_size) (maxL := 5) (ret := some .int) (by decide) rfl ?_
  intro p e s m args below meth c s₁ B hml hv
  obtain ⟨rfl, hH0, hkk0⟩ := hv
  have C : CT g RX5 cX5_size 5 (Cond.code yX5_size cX5_size 5 (some .int) :: TB) p s m _ meth c := pg_ct (Tw := []) B hml hH0 hkk0
  have hr := B.returns
  have hH : HS g s s.heap [] h := ⟨hH0, va_S.rf⟩
  have hl := lv_entry ([.ref (gB g + a0)]) (n := 5) (Nat.le_of_ble_eq_true rfl)
  rw [lg_entry_eq]
  generalize (lg_sl ([.ref (gB g + a0)]) ++ List.replicate (5 - (lg_sl ([.ref (gB g + a0)])).length) Slot.unset).toArray = ls at hl ⊢
  have hl : lv_has ls 5 [(0, .ref (gB g + a0))] := hl
  show W p l e (rmD 1 0 0) _ _ _ _ _ _ _ _ _ _ _ _
  unfold mX5_size at hf
  obtain ⟨hO, hf⟩ := oO_sp hf
  obtain ⟨⟨hx, hb, hml, hown, hts⟩, htb, hlk, hkk, hbs⟩ := id C
  refine lv_iconst (v := (0 : Int32)) hx hb dX5_size_0 (by decide) ?_
  refine lv_istore_n (lv' := [(1, .int (0 : Int32)), (0, .ref (gB g + a0))]) hx hb dX5_size_1 rfl hl (by decide) rfl (fun ls hl => ?_)
  refine lv_iconst (v := (0 : Int32)) hx hb dX5_size_2 (by decide) ?_
  refine lv_istore_n (lv' := [(2, .int (0 : Int32)), (1, .int (0 : Int32)), (0, .ref (gB g + a0))]) hx hb dX5_size_3 rfl hl (by decide) rfl (fun ls hl => ?_)
  refine lv_iconst (v := (0 : Int32)) hx hb dX5_size_4 (by decide) ?_
  refine lv_istore_n (lv' := [(3, .int (0 : Int32)), (2, .int (0 : Int32)), (1, .int (0 : Int32)), (0, .ref (gB g + a0))]) hx hb dX5_size_5 rfl hl (by decide) rfl (fun ls hl => ?_)
  exact wX5_size_L6 C hr FU hH hf (lv_sub hl [3, 2, 1, 0] rfl)
set_option maxHeartbeats 4000000 in
set_option maxRecDepth 100000 in
theorem c_X5_least {l : Launch} {g : GD} {h : PH} {a0 : Nat} {r : Int32} {h' : PH} (hf : mX5_least h a0 = some (r, h')) : Met l yX5_least (Cond.code yX5_least cX5_least 2 (some .int) :: TB) (rmD 1 0 0) (PcH g [.ref (gB g + a0)] h) (QcI g r h') 0 0 (aB g) := by
  refine Met.ofW (cc := cX5_least) (maxL := 2) (ret := some .int) (by decide) rfl ?_
  intro p e s m args below meth c s₁ B hml hv
  obtain ⟨rfl, hH0, hkk0⟩ := hv
  have C : CT g RX5 cX5_least 2 (Cond.code yX5_least cX5_least 2 (some .int) :: TB) p s m _ meth c := pg_ct (Tw := []) B hml hH0 hkk0
  have hr := B.returns
  have hH : HS g s s.heap [] h := ⟨hH0, va_S.rf⟩
  have hl := lv_entry ([.ref (gB g + a0)]) (n := 2) (Nat.le_of_ble_eq_true rfl)
  rw [lg_entry_eq]
  generalize (lg_sl ([.ref (gB g + a0)]) ++ List.replicate (2 - (lg_sl ([.ref (gB g + a0)])).length) Slot.unset).toArray = ls at hl ⊢
  have hl : lv_has ls 2 [(0, .ref (gB g + a0))] := hl
  show W p l e (rmD 1 0 0) _ _ _ _ _ _ _ _ _ _ _ _
  unfold mX5_least at hf
  obtain ⟨hO, hf⟩ := oO_sp hf
  obtain ⟨⟨hx, hb, hml, hown, hts⟩, htb, hlk, hkk, hbs⟩ := id C
  refine lv_aload_n hx hb dX5_least_0 rfl (lv_at hl 0 rfl) ?_
  refine lv_iconst (v := (0 : Int32)) hx hb dX5_least_1 (by decide) ?_
  refine pg_Vi (As := [.int (0 : Int32)]) C hH mi_X5_lowestBeyond vl_X5_54 (q := (RX5, TX5, 5)) (ci := 5) rfl rfl hf (fun _ e1 => (oO_sp e1).1) (fun _ _ e1 => c_X5_lowestBeyond e1) rfl rfl hl.1 (Nat.le_of_ble_eq_true rfl) ⟨Nat.le_of_ble_eq_true rfl, Nat.le_of_ble_eq_true rfl⟩ ⟨Nat.zero_le _, Nat.zero_le _⟩ dX5_least_2 (fun H locs v2 h2 hH hf => ?_)
  refine lv_istore_n (lv' := [(1, .int v2), (0, .ref (gB g + a0))]) hx hb dX5_least_5 rfl hl (by decide) rfl (fun ls hl => ?_)
  refine lv_iload_n hx hb dX5_least_6 rfl (lv_at hl 0 rfl) ?_
  refine lv_iconst (v := (-1 : Int32)) hx hb dX5_least_7 (by decide) ?_
  refine lv_icmp_ne (tgt := 15) hx hb dX5_least_8 (by decide) (fun cn => ?_) (fun cn => ?_)
  · have hf := (if_neg cn).symm.trans hf
    refine lv_aload_n hx hb dX5_least_15 rfl (lv_at hl 1 rfl) ?_
    refine pg_gR C hH fl_X5_9 hf dX5_least_16 (fun v16 hf => ?_)
    refine lv_iload_n hx hb dX5_least_19 rfl (lv_at hl 0 rfl) ?_
    refine pg_aI C hH hf dX5_least_20 (fun v20 hf => ?_)
    exact pg_iret C hr hH hf dX5_least_21
  · have hf := (if_pos cn).symm.trans hf
    refine lv_iconst (v := (-1 : Int32)) hx hb dX5_least_11 (by decide) ?_
    refine lv_goto (tgt := 21) hx hb dX5_least_12 (by decide) ?_
    exact pg_iret C hr hH hf dX5_least_21
set_option maxHeartbeats 4000000 in
set_option maxRecDepth 100000 in
theorem wX5_greatest_b4 {r4 : PH → Nat → Int32 → Int32 → Option (Int32 × PH)} {r : Int32} {h' : PH} (C : CT g RX5 cX5_greatest 3 (Cond.code yX5_greatest cX5_greatest 3 (some .int) :: TB) p s m args meth c) (hr : meth.sig.returnType = some .int) (k4 : ∀ {h : PH} {a0 : Nat} {x1 : Int32} {x2 : Int32} {H : Heap} {locs : List Loc} {ls : Array Slot}, HS g s H locs h → r4 h a0 x1 x2 = some (r, h') → lv_has ls 3 [(0, .ref (gB g + a0)), (1, .int x1), (2, .int x2)] → W p l e (rmD 1 0 0) s m args below meth c H locs 0 0 (MQ below (QcI g r h') args s 0 0 (aB g)) (F0 m 4 ls [])) {h : PH} {a0 : Nat} {x1 : Int32} {x2 : Int32} {H : Heap} {locs : List Loc} {ls : Array Slot} (hH : HS g s H locs h) (hf : mX5_greatest_b4 r4 h a0 x1 x2 = some (r, h')) (hl : lv_has ls 3 [(0, .ref (gB g + a0)), (1, .int x1), (2, .int x2)]) : W p l e (rmD 1 0 0) s m args below meth c H locs 0 0 (MQ below (QcI g r h') args s 0 0 (aB g)) (F0 m 4 ls []) := by
  obtain ⟨⟨hx, hb, hml, hown, hts⟩, htb, hlk, hkk, hbs⟩ := id C
  unfold mX5_greatest_b4 at hf
  refine lv_iload_n hx hb dX5_greatest_4 rfl (lv_at hl 2 rfl) ?_
  refine lv_aload_n hx hb dX5_greatest_5 rfl (lv_at hl 0 rfl) ?_
  refine pg_gI C hH fl_X5_26 hf dX5_greatest_6 (fun v6 hf => ?_)
  refine lv_icmp_ge (tgt := 29) hx hb dX5_greatest_9 (by decide) (fun cn => ?_) (fun cn => ?_)
  · have hf := (if_pos cn).symm.trans hf
    refine lv_iload_n hx hb dX5_greatest_29 rfl (lv_at hl 1 rfl) ?_
    exact pg_iret C hr hH hf dX5_greatest_30
  · have hf := (if_neg cn).symm.trans hf
    refine lv_iload_n hx hb dX5_greatest_12 rfl (lv_at hl 1 rfl) ?_
    refine lv_aload_n hx hb dX5_greatest_13 rfl (lv_at hl 0 rfl) ?_
    refine pg_gR C hH fl_X5_15 hf dX5_greatest_14 (fun v14 hf => ?_)
    refine lv_iload_n hx hb dX5_greatest_17 rfl (lv_at hl 2 rfl) ?_
    refine pg_aI C hH hf dX5_greatest_18 (fun v18 hf => ?_)
    refine pg_mmax C jm_X5_58 hl.1 (Nat.le_of_ble_eq_true rfl) (Nat.le_of_ble_eq_true rfl) ⟨Nat.zero_le _, Nat.zero_le _⟩ dX5_greatest_19 ?_
    refine lv_istore_n (lv' := [(1, .int (mmax x1 v18)), (0, .ref (gB g + a0)), (2, .int x2)]) hx hb dX5_greatest_22 rfl hl (by decide) rfl (fun ls hl => ?_)
    refine lv_iinc (v := (x2 + 1)) (lv' := [(2, .int (x2 + 1)), (1, .int (mmax x1 v18)), (0, .ref (gB g + a0))]) hx hb dX5_greatest_23 hl (k := 2) rfl rfl (by decide) rfl (fun ls hl => ?_)
    refine lv_goto (tgt := 4) hx hb dX5_greatest_26 (by decide) ?_
    exact k4 hH hf (lv_sub hl [2, 1, 0] rfl)
set_option maxHeartbeats 4000000 in
set_option maxRecDepth 100000 in
theorem wX5_greatest_L4 {r : Int32} {h' : PH} (C : CT g RX5 cX5_greatest 3 (Cond.code yX5_greatest cX5_greatest 3 (some .int) :: TB) p s m args meth c) (hr : meth.sig.returnType = some .int) : ∀ (n : Nat) {h : PH} {a0 : Nat} {x1 : Int32} {x2 : Int32} {H : Heap} {locs : List Loc} {ls : Array Slot}, HS g s H locs h → mX5_greatest_L4 n h a0 x1 x2 = some (r, h') → lv_has ls 3 [(0, .ref (gB g + a0)), (1, .int x1), (2, .int x2)] → W p l e (rmD 1 0 0) s m args below meth c H locs 0 0 (MQ below (QcI g r h') args s 0 0 (aB g)) (F0 m 4 ls []) := by
  intro n
  induction n with
  | zero =>
    intro h a0 x1 x2 H locs ls hH hf hl
    exact absurd hf (by intro z; cases z)
  | succ n ih =>
    intro h a0 x1 x2 H locs ls hH hf hl
    have hf : mX5_greatest_b4 (mX5_greatest_L4 n) h a0 x1 x2 = some (r, h') := hf
    exact wX5_greatest_b4 C hr (fun a b c => ih a b c) hH hf hl
set_option maxHeartbeats 4000000 in
set_option maxRecDepth 100000 in
theorem c_X5_greatest {l : Launch} {g : GD} {h : PH} {a0 : Nat} {r : Int32} {h' : PH} (hf : mX5_greatest h a0 = some (r, h')) : Met l yX5_greatest (Cond.code yX5_greatest cX5_greatest 3 (some .int) :: TB) (rmD 1 0 0) (PcH g [.ref (gB g + a0)] h) (QcI g r h') 0 0 (aB g) := by
  refine Met.ofW (cc := cX5_greatest) (maxL := 3) (ret := some .int) (by decide) rfl ?_
  intro p e s m args below meth c s₁ B hml hv
  obtain ⟨rfl, hH0, hkk0⟩ := hv
  have C : CT g RX5 cX5_greatest 3 (Cond.code yX5_greatest cX5_greatest 3 (some .int) :: TB) p s m _ meth c := pg_ct (Tw := []) B hml hH0 hkk0
  have hr := B.returns
  have hH : HS g s s.heap [] h := ⟨hH0, va_S.rf⟩
  have hl := lv_entry ([.ref (gB g + a0)]) (n := 3) (Nat.le_of_ble_eq_true rfl)
  rw [lg_entry_eq]
  generalize (lg_sl ([.ref (gB g + a0)]) ++ List.replicate (3 - (lg_sl ([.ref (gB g + a0)])).length) Slot.unset).toArray = ls at hl ⊢
  have hl : lv_has ls 3 [(0, .ref (gB g + a0))] := hl
  show W p l e (rmD 1 0 0) _ _ _ _ _ _ _ _ _ _ _ _
  unfold mX5_greatest at hf
  obtain ⟨hO, hf⟩ := oO_sp hf
  obtain ⟨⟨hx, hb, hml, hown, hts⟩, htb, hlk, hkk, hbs⟩ := id C
  refine lv_iconst (v := (-1 : Int32)) hx hb dX5_greatest_0 (by decide) ?_
  refine lv_istore_n (lv' := [(1, .int (-1 : Int32)), (0, .ref (gB g + a0))]) hx hb dX5_greatest_1 rfl hl (by decide) rfl (fun ls hl => ?_)
  refine lv_iconst (v := (0 : Int32)) hx hb dX5_greatest_2 (by decide) ?_
  refine lv_istore_n (lv' := [(2, .int (0 : Int32)), (1, .int (-1 : Int32)), (0, .ref (gB g + a0))]) hx hb dX5_greatest_3 rfl hl (by decide) rfl (fun ls hl => ?_)
  exact wX5_greatest_L4 C hr FU hH hf (lv_sub hl [2, 1, 0] rfl)
end WK2
